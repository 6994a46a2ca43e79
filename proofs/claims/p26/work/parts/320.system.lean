/-! system: X8_shift -/
theorem nb_dX8_shift_0 : bls_w cX8_shift [(0, [27]), (1, [184, 0, 165]), (4, [153, 0, 10]), (7, [29]), (8, [184, 0, 165]), (11, [154, 0, 5]), (14, [2]), (15, [172]), (16, [42]), (17, [180, 0, 63]), (20, [27]), (21, [50])] := bls_of (by decide +kernel)
theorem dX8_shift_0 : decode cX8_shift 0 = .ok (.iload_n 1, 1) := op_27 nb_dX8_shift_0.1
set_option maxRecDepth 100000 in
theorem dX8_shift_1 : decode cX8_shift 1 = .ok (.invokestatic 165, 3) := (op_184 nb_dX8_shift_0.2.1).trans rfl
set_option maxRecDepth 100000 in
theorem dX8_shift_4 : decode cX8_shift 4 = .ok (.ifCond .eq 10, 3) := (op_153 nb_dX8_shift_0.2.2.1).trans rfl
theorem dX8_shift_7 : decode cX8_shift 7 = .ok (.iload_n 3, 1) := op_29 nb_dX8_shift_0.2.2.2.1
set_option maxRecDepth 100000 in
theorem dX8_shift_8 : decode cX8_shift 8 = .ok (.invokestatic 165, 3) := (op_184 nb_dX8_shift_0.2.2.2.2.1).trans rfl
set_option maxRecDepth 100000 in
theorem dX8_shift_11 : decode cX8_shift 11 = .ok (.ifCond .ne 5, 3) := (op_154 nb_dX8_shift_0.2.2.2.2.2.1).trans rfl
theorem dX8_shift_14 : decode cX8_shift 14 = .ok (.iconst (-1), 1) := op_2 nb_dX8_shift_0.2.2.2.2.2.2.1
theorem dX8_shift_15 : decode cX8_shift 15 = .ok (.ireturn, 1) := op_172 nb_dX8_shift_0.2.2.2.2.2.2.2.1
theorem dX8_shift_16 : decode cX8_shift 16 = .ok (.aload_n 0, 1) := op_42 nb_dX8_shift_0.2.2.2.2.2.2.2.2.1
set_option maxRecDepth 100000 in
theorem dX8_shift_17 : decode cX8_shift 17 = .ok (.getfield 63, 3) := (op_180 nb_dX8_shift_0.2.2.2.2.2.2.2.2.2.1).trans rfl
theorem dX8_shift_20 : decode cX8_shift 20 = .ok (.iload_n 1, 1) := op_27 nb_dX8_shift_0.2.2.2.2.2.2.2.2.2.2.1
theorem dX8_shift_21 : decode cX8_shift 21 = .ok (.aaload, 1) := op_50 nb_dX8_shift_0.2.2.2.2.2.2.2.2.2.2.2.1
theorem nb_dX8_shift_22 : bls_w cX8_shift [(22, [58, 6]), (24, [42]), (25, [180, 0, 63]), (28, [29]), (29, [50]), (30, [58, 7]), (32, [25, 6]), (34, [180, 0, 168]), (37, [153, 0, 11]), (40, [25, 7]), (42, [180, 0, 168]), (45, [154, 0, 6])] := bls_of (by decide +kernel)
set_option maxRecDepth 100000 in
theorem dX8_shift_22 : decode cX8_shift 22 = .ok (.astore 6, 2) := (op_58 nb_dX8_shift_22.1).trans rfl
theorem dX8_shift_24 : decode cX8_shift 24 = .ok (.aload_n 0, 1) := op_42 nb_dX8_shift_22.2.1
set_option maxRecDepth 100000 in
theorem dX8_shift_25 : decode cX8_shift 25 = .ok (.getfield 63, 3) := (op_180 nb_dX8_shift_22.2.2.1).trans rfl
theorem dX8_shift_28 : decode cX8_shift 28 = .ok (.iload_n 3, 1) := op_29 nb_dX8_shift_22.2.2.2.1
theorem dX8_shift_29 : decode cX8_shift 29 = .ok (.aaload, 1) := op_50 nb_dX8_shift_22.2.2.2.2.1
set_option maxRecDepth 100000 in
theorem dX8_shift_30 : decode cX8_shift 30 = .ok (.astore 7, 2) := (op_58 nb_dX8_shift_22.2.2.2.2.2.1).trans rfl
set_option maxRecDepth 100000 in
theorem dX8_shift_32 : decode cX8_shift 32 = .ok (.aload 6, 2) := (op_25 nb_dX8_shift_22.2.2.2.2.2.2.1).trans rfl
set_option maxRecDepth 100000 in
theorem dX8_shift_34 : decode cX8_shift 34 = .ok (.getfield 168, 3) := (op_180 nb_dX8_shift_22.2.2.2.2.2.2.2.1).trans rfl
set_option maxRecDepth 100000 in
theorem dX8_shift_37 : decode cX8_shift 37 = .ok (.ifCond .eq 11, 3) := (op_153 nb_dX8_shift_22.2.2.2.2.2.2.2.2.1).trans rfl
set_option maxRecDepth 100000 in
theorem dX8_shift_40 : decode cX8_shift 40 = .ok (.aload 7, 2) := (op_25 nb_dX8_shift_22.2.2.2.2.2.2.2.2.2.1).trans rfl
set_option maxRecDepth 100000 in
theorem dX8_shift_42 : decode cX8_shift 42 = .ok (.getfield 168, 3) := (op_180 nb_dX8_shift_22.2.2.2.2.2.2.2.2.2.2.1).trans rfl
set_option maxRecDepth 100000 in
theorem dX8_shift_45 : decode cX8_shift 45 = .ok (.ifCond .ne 6, 3) := (op_154 nb_dX8_shift_22.2.2.2.2.2.2.2.2.2.2.2.1).trans rfl
theorem nb_dX8_shift_48 : bls_w cX8_shift [(48, [16, 245]), (50, [172]), (51, [25, 6]), (53, [180, 0, 168]), (56, [5]), (57, [160, 0, 25]), (60, [25, 7]), (62, [180, 0, 168]), (65, [5]), (66, [160, 0, 16]), (69, [25, 6]), (71, [180, 0, 171])] := bls_of (by decide +kernel)
set_option maxRecDepth 100000 in
theorem dX8_shift_48 : decode cX8_shift 48 = .ok (.bipush (-11), 2) := (op_16 nb_dX8_shift_48.1).trans rfl
theorem dX8_shift_50 : decode cX8_shift 50 = .ok (.ireturn, 1) := op_172 nb_dX8_shift_48.2.1
set_option maxRecDepth 100000 in
theorem dX8_shift_51 : decode cX8_shift 51 = .ok (.aload 6, 2) := (op_25 nb_dX8_shift_48.2.2.1).trans rfl
set_option maxRecDepth 100000 in
theorem dX8_shift_53 : decode cX8_shift 53 = .ok (.getfield 168, 3) := (op_180 nb_dX8_shift_48.2.2.2.1).trans rfl
theorem dX8_shift_56 : decode cX8_shift 56 = .ok (.iconst 2, 1) := op_5 nb_dX8_shift_48.2.2.2.2.1
set_option maxRecDepth 100000 in
theorem dX8_shift_57 : decode cX8_shift 57 = .ok (.if_icmp .ne 25, 3) := (op_160 nb_dX8_shift_48.2.2.2.2.2.1).trans rfl
set_option maxRecDepth 100000 in
theorem dX8_shift_60 : decode cX8_shift 60 = .ok (.aload 7, 2) := (op_25 nb_dX8_shift_48.2.2.2.2.2.2.1).trans rfl
set_option maxRecDepth 100000 in
theorem dX8_shift_62 : decode cX8_shift 62 = .ok (.getfield 168, 3) := (op_180 nb_dX8_shift_48.2.2.2.2.2.2.2.1).trans rfl
theorem dX8_shift_65 : decode cX8_shift 65 = .ok (.iconst 2, 1) := op_5 nb_dX8_shift_48.2.2.2.2.2.2.2.2.1
set_option maxRecDepth 100000 in
theorem dX8_shift_66 : decode cX8_shift 66 = .ok (.if_icmp .ne 16, 3) := (op_160 nb_dX8_shift_48.2.2.2.2.2.2.2.2.2.1).trans rfl
set_option maxRecDepth 100000 in
theorem dX8_shift_69 : decode cX8_shift 69 = .ok (.aload 6, 2) := (op_25 nb_dX8_shift_48.2.2.2.2.2.2.2.2.2.2.1).trans rfl
set_option maxRecDepth 100000 in
theorem dX8_shift_71 : decode cX8_shift 71 = .ok (.getfield 171, 3) := (op_180 nb_dX8_shift_48.2.2.2.2.2.2.2.2.2.2.2.1).trans rfl
theorem nb_dX8_shift_74 : bls_w cX8_shift [(74, [25, 7]), (76, [180, 0, 171]), (79, [159, 0, 6]), (82, [16, 244]), (84, [172]), (85, [21, 5]), (87, [155, 0, 26]), (90, [25, 6]), (92, [28]), (93, [21, 5]), (95, [182, 1, 47]), (98, [153, 0, 15])] := bls_of (by decide +kernel)
set_option maxRecDepth 100000 in
theorem dX8_shift_74 : decode cX8_shift 74 = .ok (.aload 7, 2) := (op_25 nb_dX8_shift_74.1).trans rfl
set_option maxRecDepth 100000 in
theorem dX8_shift_76 : decode cX8_shift 76 = .ok (.getfield 171, 3) := (op_180 nb_dX8_shift_74.2.1).trans rfl
set_option maxRecDepth 100000 in
theorem dX8_shift_79 : decode cX8_shift 79 = .ok (.if_icmp .eq 6, 3) := (op_159 nb_dX8_shift_74.2.2.1).trans rfl
set_option maxRecDepth 100000 in
theorem dX8_shift_82 : decode cX8_shift 82 = .ok (.bipush (-12), 2) := (op_16 nb_dX8_shift_74.2.2.2.1).trans rfl
theorem dX8_shift_84 : decode cX8_shift 84 = .ok (.ireturn, 1) := op_172 nb_dX8_shift_74.2.2.2.2.1
set_option maxRecDepth 100000 in
theorem dX8_shift_85 : decode cX8_shift 85 = .ok (.iload 5, 2) := (op_21 nb_dX8_shift_74.2.2.2.2.2.1).trans rfl
set_option maxRecDepth 100000 in
theorem dX8_shift_87 : decode cX8_shift 87 = .ok (.ifCond .lt 26, 3) := (op_155 nb_dX8_shift_74.2.2.2.2.2.2.1).trans rfl
set_option maxRecDepth 100000 in
theorem dX8_shift_90 : decode cX8_shift 90 = .ok (.aload 6, 2) := (op_25 nb_dX8_shift_74.2.2.2.2.2.2.2.1).trans rfl
theorem dX8_shift_92 : decode cX8_shift 92 = .ok (.iload_n 2, 1) := op_28 nb_dX8_shift_74.2.2.2.2.2.2.2.2.1
set_option maxRecDepth 100000 in
theorem dX8_shift_93 : decode cX8_shift 93 = .ok (.iload 5, 2) := (op_21 nb_dX8_shift_74.2.2.2.2.2.2.2.2.2.1).trans rfl
set_option maxRecDepth 100000 in
theorem dX8_shift_95 : decode cX8_shift 95 = .ok (.invokevirtual 303, 3) := (op_182 nb_dX8_shift_74.2.2.2.2.2.2.2.2.2.2.1).trans rfl
set_option maxRecDepth 100000 in
theorem dX8_shift_98 : decode cX8_shift 98 = .ok (.ifCond .eq 15, 3) := (op_153 nb_dX8_shift_74.2.2.2.2.2.2.2.2.2.2.2.1).trans rfl
theorem nb_dX8_shift_101 : bls_w cX8_shift [(101, [25, 7]), (103, [21, 4]), (105, [21, 5]), (107, [182, 1, 47]), (110, [154, 0, 6]), (113, [16, 243]), (115, [172]), (116, [25, 6]), (118, [180, 1, 43]), (121, [28]), (122, [25, 7]), (124, [180, 1, 43])] := bls_of (by decide +kernel)
set_option maxRecDepth 100000 in
theorem dX8_shift_101 : decode cX8_shift 101 = .ok (.aload 7, 2) := (op_25 nb_dX8_shift_101.1).trans rfl
set_option maxRecDepth 100000 in
theorem dX8_shift_103 : decode cX8_shift 103 = .ok (.iload 4, 2) := (op_21 nb_dX8_shift_101.2.1).trans rfl
set_option maxRecDepth 100000 in
theorem dX8_shift_105 : decode cX8_shift 105 = .ok (.iload 5, 2) := (op_21 nb_dX8_shift_101.2.2.1).trans rfl
set_option maxRecDepth 100000 in
theorem dX8_shift_107 : decode cX8_shift 107 = .ok (.invokevirtual 303, 3) := (op_182 nb_dX8_shift_101.2.2.2.1).trans rfl
set_option maxRecDepth 100000 in
theorem dX8_shift_110 : decode cX8_shift 110 = .ok (.ifCond .ne 6, 3) := (op_154 nb_dX8_shift_101.2.2.2.2.1).trans rfl
set_option maxRecDepth 100000 in
theorem dX8_shift_113 : decode cX8_shift 113 = .ok (.bipush (-13), 2) := (op_16 nb_dX8_shift_101.2.2.2.2.2.1).trans rfl
theorem dX8_shift_115 : decode cX8_shift 115 = .ok (.ireturn, 1) := op_172 nb_dX8_shift_101.2.2.2.2.2.2.1
set_option maxRecDepth 100000 in
theorem dX8_shift_116 : decode cX8_shift 116 = .ok (.aload 6, 2) := (op_25 nb_dX8_shift_101.2.2.2.2.2.2.2.1).trans rfl
set_option maxRecDepth 100000 in
theorem dX8_shift_118 : decode cX8_shift 118 = .ok (.getfield 299, 3) := (op_180 nb_dX8_shift_101.2.2.2.2.2.2.2.2.1).trans rfl
theorem dX8_shift_121 : decode cX8_shift 121 = .ok (.iload_n 2, 1) := op_28 nb_dX8_shift_101.2.2.2.2.2.2.2.2.2.1
set_option maxRecDepth 100000 in
theorem dX8_shift_122 : decode cX8_shift 122 = .ok (.aload 7, 2) := (op_25 nb_dX8_shift_101.2.2.2.2.2.2.2.2.2.2.1).trans rfl
set_option maxRecDepth 100000 in
theorem dX8_shift_124 : decode cX8_shift 124 = .ok (.getfield 299, 3) := (op_180 nb_dX8_shift_101.2.2.2.2.2.2.2.2.2.2.2.1).trans rfl
theorem nb_dX8_shift_127 : bls_w cX8_shift [(127, [21, 4]), (129, [21, 5]), (131, [184, 1, 50]), (134, [21, 5]), (136, [172])] := bls_of (by decide +kernel)
set_option maxRecDepth 100000 in
theorem dX8_shift_127 : decode cX8_shift 127 = .ok (.iload 4, 2) := (op_21 nb_dX8_shift_127.1).trans rfl
set_option maxRecDepth 100000 in
theorem dX8_shift_129 : decode cX8_shift 129 = .ok (.iload 5, 2) := (op_21 nb_dX8_shift_127.2.1).trans rfl
set_option maxRecDepth 100000 in
theorem dX8_shift_131 : decode cX8_shift 131 = .ok (.invokestatic 306, 3) := (op_184 nb_dX8_shift_127.2.2.1).trans rfl
set_option maxRecDepth 100000 in
theorem dX8_shift_134 : decode cX8_shift 134 = .ok (.iload 5, 2) := (op_21 nb_dX8_shift_127.2.2.2.1).trans rfl
theorem dX8_shift_136 : decode cX8_shift 136 = .ok (.ireturn, 1) := op_172 nb_dX8_shift_127.2.2.2.2.1
def fX8_shift (N : Nat) (x1 : Int32) (x2 : Int32) (x3 : Int32) (x4 : Int32) (x5 : Int32) (v_shelves0_holds : Int32) (v_shelves0_sort : Int32) (v_shelves0_size : Int32) (v_shelves0_items : List Int64) (v_shelves1_holds : Int32) (v_shelves1_sort : Int32) (v_shelves1_size : Int32) (v_shelves1_items : List Int64) (v_shelves2_holds : Int32) (v_shelves2_sort : Int32) (v_shelves2_size : Int32) (v_shelves2_items : List Int64) (v_shelves3_holds : Int32) (v_shelves3_sort : Int32) (v_shelves3_size : Int32) (v_shelves3_items : List Int64) (v_shelves4_holds : Int32) (v_shelves4_sort : Int32) (v_shelves4_size : Int32) (v_shelves4_items : List Int64) (v_shelves5_holds : Int32) (v_shelves5_sort : Int32) (v_shelves5_size : Int32) (v_shelves5_items : List Int64) : Option (Int32 × List Int64 × List Int64 × List Int64 × List Int64 × List Int64 × List Int64) :=
    mm_bd1 (fX8_isShelf N x1) (fun (r_1 : Bool) =>
    if r_1 = false then
    (some ((-1 : Int32), v_shelves0_items, v_shelves1_items, v_shelves2_items, v_shelves3_items, v_shelves4_items, v_shelves5_items))
    else (mm_bd1 (fX8_isShelf N x3) (fun (r_4 : Bool) =>
    if r_4 = false then
    (some ((-1 : Int32), v_shelves0_items, v_shelves1_items, v_shelves2_items, v_shelves3_items, v_shelves4_items, v_shelves5_items))
    else (if x1 = (0 : Int32) then
    (if x3 = (0 : Int32) then
    (if v_shelves0_holds = 0 then
    (some ((-11 : Int32), v_shelves0_items, v_shelves1_items, v_shelves2_items, v_shelves3_items, v_shelves4_items, v_shelves5_items))
    else (if v_shelves0_holds = 0 then
    (some ((-11 : Int32), v_shelves0_items, v_shelves1_items, v_shelves2_items, v_shelves3_items, v_shelves4_items, v_shelves5_items))
    else (if v_shelves0_holds = (2 : Int32) then
    (if v_shelves0_holds = (2 : Int32) then
    (if v_shelves0_sort = v_shelves0_sort then
    (if x5 < 0 then
    (some ((-13 : Int32), v_shelves0_items, v_shelves1_items, v_shelves2_items, v_shelves3_items, v_shelves4_items, v_shelves5_items))
    else (mm_bd1 (fX6_hasPart N x2 x5 v_shelves0_size) (fun (r_15 : Bool) =>
    if r_15 = false then
    (some ((-13 : Int32), v_shelves0_items, v_shelves1_items, v_shelves2_items, v_shelves3_items, v_shelves4_items, v_shelves5_items))
    else (mm_bd1 (fX6_hasPart N x4 x5 v_shelves0_size) (fun (r_18 : Bool) =>
    if r_18 = false then
    (some ((-13 : Int32), v_shelves0_items, v_shelves1_items, v_shelves2_items, v_shelves3_items, v_shelves4_items, v_shelves5_items))
    else (mm_ck (mm_cok x2 x4 x5 v_shelves0_items.length v_shelves0_items.length) (mm_nm (mm_cp v_shelves0_items v_shelves0_items x2 x4 x5) (fun (l_22 : List Int64) =>
    some (x5, l_22, v_shelves1_items, v_shelves2_items, v_shelves3_items, v_shelves4_items, v_shelves5_items)))))))))
    else (some ((-12 : Int32), v_shelves0_items, v_shelves1_items, v_shelves2_items, v_shelves3_items, v_shelves4_items, v_shelves5_items)))
    else (some ((-12 : Int32), v_shelves0_items, v_shelves1_items, v_shelves2_items, v_shelves3_items, v_shelves4_items, v_shelves5_items)))
    else (some ((-12 : Int32), v_shelves0_items, v_shelves1_items, v_shelves2_items, v_shelves3_items, v_shelves4_items, v_shelves5_items)))))
    else (if x3 = (1 : Int32) then
    (if v_shelves0_holds = 0 then
    (some ((-11 : Int32), v_shelves0_items, v_shelves1_items, v_shelves2_items, v_shelves3_items, v_shelves4_items, v_shelves5_items))
    else (if v_shelves1_holds = 0 then
    (some ((-11 : Int32), v_shelves0_items, v_shelves1_items, v_shelves2_items, v_shelves3_items, v_shelves4_items, v_shelves5_items))
    else (if v_shelves0_holds = (2 : Int32) then
    (if v_shelves1_holds = (2 : Int32) then
    (if v_shelves0_sort = v_shelves1_sort then
    (if x5 < 0 then
    (some ((-13 : Int32), v_shelves0_items, v_shelves1_items, v_shelves2_items, v_shelves3_items, v_shelves4_items, v_shelves5_items))
    else (mm_bd1 (fX6_hasPart N x2 x5 v_shelves0_size) (fun (r_30 : Bool) =>
    if r_30 = false then
    (some ((-13 : Int32), v_shelves0_items, v_shelves1_items, v_shelves2_items, v_shelves3_items, v_shelves4_items, v_shelves5_items))
    else (mm_bd1 (fX6_hasPart N x4 x5 v_shelves1_size) (fun (r_33 : Bool) =>
    if r_33 = false then
    (some ((-13 : Int32), v_shelves0_items, v_shelves1_items, v_shelves2_items, v_shelves3_items, v_shelves4_items, v_shelves5_items))
    else (mm_ck (mm_cok x2 x4 x5 v_shelves0_items.length v_shelves1_items.length) (mm_nm (mm_cp v_shelves0_items v_shelves1_items x2 x4 x5) (fun (l_37 : List Int64) =>
    some (x5, v_shelves0_items, l_37, v_shelves2_items, v_shelves3_items, v_shelves4_items, v_shelves5_items)))))))))
    else (some ((-12 : Int32), v_shelves0_items, v_shelves1_items, v_shelves2_items, v_shelves3_items, v_shelves4_items, v_shelves5_items)))
    else (some ((-12 : Int32), v_shelves0_items, v_shelves1_items, v_shelves2_items, v_shelves3_items, v_shelves4_items, v_shelves5_items)))
    else (some ((-12 : Int32), v_shelves0_items, v_shelves1_items, v_shelves2_items, v_shelves3_items, v_shelves4_items, v_shelves5_items)))))
    else (if x3 = (2 : Int32) then
    (if v_shelves0_holds = 0 then
    (some ((-11 : Int32), v_shelves0_items, v_shelves1_items, v_shelves2_items, v_shelves3_items, v_shelves4_items, v_shelves5_items))
    else (if v_shelves2_holds = 0 then
    (some ((-11 : Int32), v_shelves0_items, v_shelves1_items, v_shelves2_items, v_shelves3_items, v_shelves4_items, v_shelves5_items))
    else (if v_shelves0_holds = (2 : Int32) then
    (if v_shelves2_holds = (2 : Int32) then
    (if v_shelves0_sort = v_shelves2_sort then
    (if x5 < 0 then
    (some ((-13 : Int32), v_shelves0_items, v_shelves1_items, v_shelves2_items, v_shelves3_items, v_shelves4_items, v_shelves5_items))
    else (mm_bd1 (fX6_hasPart N x2 x5 v_shelves0_size) (fun (r_45 : Bool) =>
    if r_45 = false then
    (some ((-13 : Int32), v_shelves0_items, v_shelves1_items, v_shelves2_items, v_shelves3_items, v_shelves4_items, v_shelves5_items))
    else (mm_bd1 (fX6_hasPart N x4 x5 v_shelves2_size) (fun (r_48 : Bool) =>
    if r_48 = false then
    (some ((-13 : Int32), v_shelves0_items, v_shelves1_items, v_shelves2_items, v_shelves3_items, v_shelves4_items, v_shelves5_items))
    else (mm_ck (mm_cok x2 x4 x5 v_shelves0_items.length v_shelves2_items.length) (mm_nm (mm_cp v_shelves0_items v_shelves2_items x2 x4 x5) (fun (l_52 : List Int64) =>
    some (x5, v_shelves0_items, v_shelves1_items, l_52, v_shelves3_items, v_shelves4_items, v_shelves5_items)))))))))
    else (some ((-12 : Int32), v_shelves0_items, v_shelves1_items, v_shelves2_items, v_shelves3_items, v_shelves4_items, v_shelves5_items)))
    else (some ((-12 : Int32), v_shelves0_items, v_shelves1_items, v_shelves2_items, v_shelves3_items, v_shelves4_items, v_shelves5_items)))
    else (some ((-12 : Int32), v_shelves0_items, v_shelves1_items, v_shelves2_items, v_shelves3_items, v_shelves4_items, v_shelves5_items)))))
    else (if x3 = (3 : Int32) then
    (if v_shelves0_holds = 0 then
    (some ((-11 : Int32), v_shelves0_items, v_shelves1_items, v_shelves2_items, v_shelves3_items, v_shelves4_items, v_shelves5_items))
    else (if v_shelves3_holds = 0 then
    (some ((-11 : Int32), v_shelves0_items, v_shelves1_items, v_shelves2_items, v_shelves3_items, v_shelves4_items, v_shelves5_items))
    else (if v_shelves0_holds = (2 : Int32) then
    (if v_shelves3_holds = (2 : Int32) then
    (if v_shelves0_sort = v_shelves3_sort then
    (if x5 < 0 then
    (some ((-13 : Int32), v_shelves0_items, v_shelves1_items, v_shelves2_items, v_shelves3_items, v_shelves4_items, v_shelves5_items))
    else (mm_bd1 (fX6_hasPart N x2 x5 v_shelves0_size) (fun (r_60 : Bool) =>
    if r_60 = false then
    (some ((-13 : Int32), v_shelves0_items, v_shelves1_items, v_shelves2_items, v_shelves3_items, v_shelves4_items, v_shelves5_items))
    else (mm_bd1 (fX6_hasPart N x4 x5 v_shelves3_size) (fun (r_63 : Bool) =>
    if r_63 = false then
    (some ((-13 : Int32), v_shelves0_items, v_shelves1_items, v_shelves2_items, v_shelves3_items, v_shelves4_items, v_shelves5_items))
    else (mm_ck (mm_cok x2 x4 x5 v_shelves0_items.length v_shelves3_items.length) (mm_nm (mm_cp v_shelves0_items v_shelves3_items x2 x4 x5) (fun (l_67 : List Int64) =>
    some (x5, v_shelves0_items, v_shelves1_items, v_shelves2_items, l_67, v_shelves4_items, v_shelves5_items)))))))))
    else (some ((-12 : Int32), v_shelves0_items, v_shelves1_items, v_shelves2_items, v_shelves3_items, v_shelves4_items, v_shelves5_items)))
    else (some ((-12 : Int32), v_shelves0_items, v_shelves1_items, v_shelves2_items, v_shelves3_items, v_shelves4_items, v_shelves5_items)))
    else (some ((-12 : Int32), v_shelves0_items, v_shelves1_items, v_shelves2_items, v_shelves3_items, v_shelves4_items, v_shelves5_items)))))
    else (if x3 = (4 : Int32) then
    (if v_shelves0_holds = 0 then
    (some ((-11 : Int32), v_shelves0_items, v_shelves1_items, v_shelves2_items, v_shelves3_items, v_shelves4_items, v_shelves5_items))
    else (if v_shelves4_holds = 0 then
    (some ((-11 : Int32), v_shelves0_items, v_shelves1_items, v_shelves2_items, v_shelves3_items, v_shelves4_items, v_shelves5_items))
    else (if v_shelves0_holds = (2 : Int32) then
    (if v_shelves4_holds = (2 : Int32) then
    (if v_shelves0_sort = v_shelves4_sort then
    (if x5 < 0 then
    (some ((-13 : Int32), v_shelves0_items, v_shelves1_items, v_shelves2_items, v_shelves3_items, v_shelves4_items, v_shelves5_items))
    else (mm_bd1 (fX6_hasPart N x2 x5 v_shelves0_size) (fun (r_75 : Bool) =>
    if r_75 = false then
    (some ((-13 : Int32), v_shelves0_items, v_shelves1_items, v_shelves2_items, v_shelves3_items, v_shelves4_items, v_shelves5_items))
    else (mm_bd1 (fX6_hasPart N x4 x5 v_shelves4_size) (fun (r_78 : Bool) =>
    if r_78 = false then
    (some ((-13 : Int32), v_shelves0_items, v_shelves1_items, v_shelves2_items, v_shelves3_items, v_shelves4_items, v_shelves5_items))
    else (mm_ck (mm_cok x2 x4 x5 v_shelves0_items.length v_shelves4_items.length) (mm_nm (mm_cp v_shelves0_items v_shelves4_items x2 x4 x5) (fun (l_82 : List Int64) =>
    some (x5, v_shelves0_items, v_shelves1_items, v_shelves2_items, v_shelves3_items, l_82, v_shelves5_items)))))))))
    else (some ((-12 : Int32), v_shelves0_items, v_shelves1_items, v_shelves2_items, v_shelves3_items, v_shelves4_items, v_shelves5_items)))
    else (some ((-12 : Int32), v_shelves0_items, v_shelves1_items, v_shelves2_items, v_shelves3_items, v_shelves4_items, v_shelves5_items)))
    else (some ((-12 : Int32), v_shelves0_items, v_shelves1_items, v_shelves2_items, v_shelves3_items, v_shelves4_items, v_shelves5_items)))))
    else (if x3 = (5 : Int32) then
    (if v_shelves0_holds = 0 then
    (some ((-11 : Int32), v_shelves0_items, v_shelves1_items, v_shelves2_items, v_shelves3_items, v_shelves4_items, v_shelves5_items))
    else (if v_shelves5_holds = 0 then
    (some ((-11 : Int32), v_shelves0_items, v_shelves1_items, v_shelves2_items, v_shelves3_items, v_shelves4_items, v_shelves5_items))
    else (if v_shelves0_holds = (2 : Int32) then
    (if v_shelves5_holds = (2 : Int32) then
    (if v_shelves0_sort = v_shelves5_sort then
    (if x5 < 0 then
    (some ((-13 : Int32), v_shelves0_items, v_shelves1_items, v_shelves2_items, v_shelves3_items, v_shelves4_items, v_shelves5_items))
    else (mm_bd1 (fX6_hasPart N x2 x5 v_shelves0_size) (fun (r_90 : Bool) =>
    if r_90 = false then
    (some ((-13 : Int32), v_shelves0_items, v_shelves1_items, v_shelves2_items, v_shelves3_items, v_shelves4_items, v_shelves5_items))
    else (mm_bd1 (fX6_hasPart N x4 x5 v_shelves5_size) (fun (r_93 : Bool) =>
    if r_93 = false then
    (some ((-13 : Int32), v_shelves0_items, v_shelves1_items, v_shelves2_items, v_shelves3_items, v_shelves4_items, v_shelves5_items))
    else (mm_ck (mm_cok x2 x4 x5 v_shelves0_items.length v_shelves5_items.length) (mm_nm (mm_cp v_shelves0_items v_shelves5_items x2 x4 x5) (fun (l_97 : List Int64) =>
    some (x5, v_shelves0_items, v_shelves1_items, v_shelves2_items, v_shelves3_items, v_shelves4_items, l_97)))))))))
    else (some ((-12 : Int32), v_shelves0_items, v_shelves1_items, v_shelves2_items, v_shelves3_items, v_shelves4_items, v_shelves5_items)))
    else (some ((-12 : Int32), v_shelves0_items, v_shelves1_items, v_shelves2_items, v_shelves3_items, v_shelves4_items, v_shelves5_items)))
    else (some ((-12 : Int32), v_shelves0_items, v_shelves1_items, v_shelves2_items, v_shelves3_items, v_shelves4_items, v_shelves5_items)))))
    else (none)))))))
    else (if x1 = (1 : Int32) then
    (if x3 = (0 : Int32) then
    (if v_shelves1_holds = 0 then
    (some ((-11 : Int32), v_shelves0_items, v_shelves1_items, v_shelves2_items, v_shelves3_items, v_shelves4_items, v_shelves5_items))
    else (if v_shelves0_holds = 0 then
    (some ((-11 : Int32), v_shelves0_items, v_shelves1_items, v_shelves2_items, v_shelves3_items, v_shelves4_items, v_shelves5_items))
    else (if v_shelves1_holds = (2 : Int32) then
    (if v_shelves0_holds = (2 : Int32) then
    (if v_shelves1_sort = v_shelves0_sort then
    (if x5 < 0 then
    (some ((-13 : Int32), v_shelves0_items, v_shelves1_items, v_shelves2_items, v_shelves3_items, v_shelves4_items, v_shelves5_items))
    else (mm_bd1 (fX6_hasPart N x2 x5 v_shelves1_size) (fun (r_106 : Bool) =>
    if r_106 = false then
    (some ((-13 : Int32), v_shelves0_items, v_shelves1_items, v_shelves2_items, v_shelves3_items, v_shelves4_items, v_shelves5_items))
    else (mm_bd1 (fX6_hasPart N x4 x5 v_shelves0_size) (fun (r_109 : Bool) =>
    if r_109 = false then
    (some ((-13 : Int32), v_shelves0_items, v_shelves1_items, v_shelves2_items, v_shelves3_items, v_shelves4_items, v_shelves5_items))
    else (mm_ck (mm_cok x2 x4 x5 v_shelves1_items.length v_shelves0_items.length) (mm_nm (mm_cp v_shelves1_items v_shelves0_items x2 x4 x5) (fun (l_113 : List Int64) =>
    some (x5, l_113, v_shelves1_items, v_shelves2_items, v_shelves3_items, v_shelves4_items, v_shelves5_items)))))))))
    else (some ((-12 : Int32), v_shelves0_items, v_shelves1_items, v_shelves2_items, v_shelves3_items, v_shelves4_items, v_shelves5_items)))
    else (some ((-12 : Int32), v_shelves0_items, v_shelves1_items, v_shelves2_items, v_shelves3_items, v_shelves4_items, v_shelves5_items)))
    else (some ((-12 : Int32), v_shelves0_items, v_shelves1_items, v_shelves2_items, v_shelves3_items, v_shelves4_items, v_shelves5_items)))))
    else (if x3 = (1 : Int32) then
    (if v_shelves1_holds = 0 then
    (some ((-11 : Int32), v_shelves0_items, v_shelves1_items, v_shelves2_items, v_shelves3_items, v_shelves4_items, v_shelves5_items))
    else (if v_shelves1_holds = 0 then
    (some ((-11 : Int32), v_shelves0_items, v_shelves1_items, v_shelves2_items, v_shelves3_items, v_shelves4_items, v_shelves5_items))
    else (if v_shelves1_holds = (2 : Int32) then
    (if v_shelves1_holds = (2 : Int32) then
    (if v_shelves1_sort = v_shelves1_sort then
    (if x5 < 0 then
    (some ((-13 : Int32), v_shelves0_items, v_shelves1_items, v_shelves2_items, v_shelves3_items, v_shelves4_items, v_shelves5_items))
    else (mm_bd1 (fX6_hasPart N x2 x5 v_shelves1_size) (fun (r_121 : Bool) =>
    if r_121 = false then
    (some ((-13 : Int32), v_shelves0_items, v_shelves1_items, v_shelves2_items, v_shelves3_items, v_shelves4_items, v_shelves5_items))
    else (mm_bd1 (fX6_hasPart N x4 x5 v_shelves1_size) (fun (r_124 : Bool) =>
    if r_124 = false then
    (some ((-13 : Int32), v_shelves0_items, v_shelves1_items, v_shelves2_items, v_shelves3_items, v_shelves4_items, v_shelves5_items))
    else (mm_ck (mm_cok x2 x4 x5 v_shelves1_items.length v_shelves1_items.length) (mm_nm (mm_cp v_shelves1_items v_shelves1_items x2 x4 x5) (fun (l_128 : List Int64) =>
    some (x5, v_shelves0_items, l_128, v_shelves2_items, v_shelves3_items, v_shelves4_items, v_shelves5_items)))))))))
    else (some ((-12 : Int32), v_shelves0_items, v_shelves1_items, v_shelves2_items, v_shelves3_items, v_shelves4_items, v_shelves5_items)))
    else (some ((-12 : Int32), v_shelves0_items, v_shelves1_items, v_shelves2_items, v_shelves3_items, v_shelves4_items, v_shelves5_items)))
    else (some ((-12 : Int32), v_shelves0_items, v_shelves1_items, v_shelves2_items, v_shelves3_items, v_shelves4_items, v_shelves5_items)))))
    else (if x3 = (2 : Int32) then
    (if v_shelves1_holds = 0 then
    (some ((-11 : Int32), v_shelves0_items, v_shelves1_items, v_shelves2_items, v_shelves3_items, v_shelves4_items, v_shelves5_items))
    else (if v_shelves2_holds = 0 then
    (some ((-11 : Int32), v_shelves0_items, v_shelves1_items, v_shelves2_items, v_shelves3_items, v_shelves4_items, v_shelves5_items))
    else (if v_shelves1_holds = (2 : Int32) then
    (if v_shelves2_holds = (2 : Int32) then
    (if v_shelves1_sort = v_shelves2_sort then
    (if x5 < 0 then
    (some ((-13 : Int32), v_shelves0_items, v_shelves1_items, v_shelves2_items, v_shelves3_items, v_shelves4_items, v_shelves5_items))
    else (mm_bd1 (fX6_hasPart N x2 x5 v_shelves1_size) (fun (r_136 : Bool) =>
    if r_136 = false then
    (some ((-13 : Int32), v_shelves0_items, v_shelves1_items, v_shelves2_items, v_shelves3_items, v_shelves4_items, v_shelves5_items))
    else (mm_bd1 (fX6_hasPart N x4 x5 v_shelves2_size) (fun (r_139 : Bool) =>
    if r_139 = false then
    (some ((-13 : Int32), v_shelves0_items, v_shelves1_items, v_shelves2_items, v_shelves3_items, v_shelves4_items, v_shelves5_items))
    else (mm_ck (mm_cok x2 x4 x5 v_shelves1_items.length v_shelves2_items.length) (mm_nm (mm_cp v_shelves1_items v_shelves2_items x2 x4 x5) (fun (l_143 : List Int64) =>
    some (x5, v_shelves0_items, v_shelves1_items, l_143, v_shelves3_items, v_shelves4_items, v_shelves5_items)))))))))
    else (some ((-12 : Int32), v_shelves0_items, v_shelves1_items, v_shelves2_items, v_shelves3_items, v_shelves4_items, v_shelves5_items)))
    else (some ((-12 : Int32), v_shelves0_items, v_shelves1_items, v_shelves2_items, v_shelves3_items, v_shelves4_items, v_shelves5_items)))
    else (some ((-12 : Int32), v_shelves0_items, v_shelves1_items, v_shelves2_items, v_shelves3_items, v_shelves4_items, v_shelves5_items)))))
    else (if x3 = (3 : Int32) then
    (if v_shelves1_holds = 0 then
    (some ((-11 : Int32), v_shelves0_items, v_shelves1_items, v_shelves2_items, v_shelves3_items, v_shelves4_items, v_shelves5_items))
    else (if v_shelves3_holds = 0 then
    (some ((-11 : Int32), v_shelves0_items, v_shelves1_items, v_shelves2_items, v_shelves3_items, v_shelves4_items, v_shelves5_items))
    else (if v_shelves1_holds = (2 : Int32) then
    (if v_shelves3_holds = (2 : Int32) then
    (if v_shelves1_sort = v_shelves3_sort then
    (if x5 < 0 then
    (some ((-13 : Int32), v_shelves0_items, v_shelves1_items, v_shelves2_items, v_shelves3_items, v_shelves4_items, v_shelves5_items))
    else (mm_bd1 (fX6_hasPart N x2 x5 v_shelves1_size) (fun (r_151 : Bool) =>
    if r_151 = false then
    (some ((-13 : Int32), v_shelves0_items, v_shelves1_items, v_shelves2_items, v_shelves3_items, v_shelves4_items, v_shelves5_items))
    else (mm_bd1 (fX6_hasPart N x4 x5 v_shelves3_size) (fun (r_154 : Bool) =>
    if r_154 = false then
    (some ((-13 : Int32), v_shelves0_items, v_shelves1_items, v_shelves2_items, v_shelves3_items, v_shelves4_items, v_shelves5_items))
    else (mm_ck (mm_cok x2 x4 x5 v_shelves1_items.length v_shelves3_items.length) (mm_nm (mm_cp v_shelves1_items v_shelves3_items x2 x4 x5) (fun (l_158 : List Int64) =>
    some (x5, v_shelves0_items, v_shelves1_items, v_shelves2_items, l_158, v_shelves4_items, v_shelves5_items)))))))))
    else (some ((-12 : Int32), v_shelves0_items, v_shelves1_items, v_shelves2_items, v_shelves3_items, v_shelves4_items, v_shelves5_items)))
    else (some ((-12 : Int32), v_shelves0_items, v_shelves1_items, v_shelves2_items, v_shelves3_items, v_shelves4_items, v_shelves5_items)))
    else (some ((-12 : Int32), v_shelves0_items, v_shelves1_items, v_shelves2_items, v_shelves3_items, v_shelves4_items, v_shelves5_items)))))
    else (if x3 = (4 : Int32) then
    (if v_shelves1_holds = 0 then
    (some ((-11 : Int32), v_shelves0_items, v_shelves1_items, v_shelves2_items, v_shelves3_items, v_shelves4_items, v_shelves5_items))
    else (if v_shelves4_holds = 0 then
    (some ((-11 : Int32), v_shelves0_items, v_shelves1_items, v_shelves2_items, v_shelves3_items, v_shelves4_items, v_shelves5_items))
    else (if v_shelves1_holds = (2 : Int32) then
    (if v_shelves4_holds = (2 : Int32) then
    (if v_shelves1_sort = v_shelves4_sort then
    (if x5 < 0 then
    (some ((-13 : Int32), v_shelves0_items, v_shelves1_items, v_shelves2_items, v_shelves3_items, v_shelves4_items, v_shelves5_items))
    else (mm_bd1 (fX6_hasPart N x2 x5 v_shelves1_size) (fun (r_166 : Bool) =>
    if r_166 = false then
    (some ((-13 : Int32), v_shelves0_items, v_shelves1_items, v_shelves2_items, v_shelves3_items, v_shelves4_items, v_shelves5_items))
    else (mm_bd1 (fX6_hasPart N x4 x5 v_shelves4_size) (fun (r_169 : Bool) =>
    if r_169 = false then
    (some ((-13 : Int32), v_shelves0_items, v_shelves1_items, v_shelves2_items, v_shelves3_items, v_shelves4_items, v_shelves5_items))
    else (mm_ck (mm_cok x2 x4 x5 v_shelves1_items.length v_shelves4_items.length) (mm_nm (mm_cp v_shelves1_items v_shelves4_items x2 x4 x5) (fun (l_173 : List Int64) =>
    some (x5, v_shelves0_items, v_shelves1_items, v_shelves2_items, v_shelves3_items, l_173, v_shelves5_items)))))))))
    else (some ((-12 : Int32), v_shelves0_items, v_shelves1_items, v_shelves2_items, v_shelves3_items, v_shelves4_items, v_shelves5_items)))
    else (some ((-12 : Int32), v_shelves0_items, v_shelves1_items, v_shelves2_items, v_shelves3_items, v_shelves4_items, v_shelves5_items)))
    else (some ((-12 : Int32), v_shelves0_items, v_shelves1_items, v_shelves2_items, v_shelves3_items, v_shelves4_items, v_shelves5_items)))))
    else (if x3 = (5 : Int32) then
    (if v_shelves1_holds = 0 then
    (some ((-11 : Int32), v_shelves0_items, v_shelves1_items, v_shelves2_items, v_shelves3_items, v_shelves4_items, v_shelves5_items))
    else (if v_shelves5_holds = 0 then
    (some ((-11 : Int32), v_shelves0_items, v_shelves1_items, v_shelves2_items, v_shelves3_items, v_shelves4_items, v_shelves5_items))
    else (if v_shelves1_holds = (2 : Int32) then
    (if v_shelves5_holds = (2 : Int32) then
    (if v_shelves1_sort = v_shelves5_sort then
    (if x5 < 0 then
    (some ((-13 : Int32), v_shelves0_items, v_shelves1_items, v_shelves2_items, v_shelves3_items, v_shelves4_items, v_shelves5_items))
    else (mm_bd1 (fX6_hasPart N x2 x5 v_shelves1_size) (fun (r_181 : Bool) =>
    if r_181 = false then
    (some ((-13 : Int32), v_shelves0_items, v_shelves1_items, v_shelves2_items, v_shelves3_items, v_shelves4_items, v_shelves5_items))
    else (mm_bd1 (fX6_hasPart N x4 x5 v_shelves5_size) (fun (r_184 : Bool) =>
    if r_184 = false then
    (some ((-13 : Int32), v_shelves0_items, v_shelves1_items, v_shelves2_items, v_shelves3_items, v_shelves4_items, v_shelves5_items))
    else (mm_ck (mm_cok x2 x4 x5 v_shelves1_items.length v_shelves5_items.length) (mm_nm (mm_cp v_shelves1_items v_shelves5_items x2 x4 x5) (fun (l_188 : List Int64) =>
    some (x5, v_shelves0_items, v_shelves1_items, v_shelves2_items, v_shelves3_items, v_shelves4_items, l_188)))))))))
    else (some ((-12 : Int32), v_shelves0_items, v_shelves1_items, v_shelves2_items, v_shelves3_items, v_shelves4_items, v_shelves5_items)))
    else (some ((-12 : Int32), v_shelves0_items, v_shelves1_items, v_shelves2_items, v_shelves3_items, v_shelves4_items, v_shelves5_items)))
    else (some ((-12 : Int32), v_shelves0_items, v_shelves1_items, v_shelves2_items, v_shelves3_items, v_shelves4_items, v_shelves5_items)))))
    else (none)))))))
    else (if x1 = (2 : Int32) then
    (if x3 = (0 : Int32) then
    (if v_shelves2_holds = 0 then
    (some ((-11 : Int32), v_shelves0_items, v_shelves1_items, v_shelves2_items, v_shelves3_items, v_shelves4_items, v_shelves5_items))
    else (if v_shelves0_holds = 0 then
    (some ((-11 : Int32), v_shelves0_items, v_shelves1_items, v_shelves2_items, v_shelves3_items, v_shelves4_items, v_shelves5_items))
    else (if v_shelves2_holds = (2 : Int32) then
    (if v_shelves0_holds = (2 : Int32) then
    (if v_shelves2_sort = v_shelves0_sort then
    (if x5 < 0 then
    (some ((-13 : Int32), v_shelves0_items, v_shelves1_items, v_shelves2_items, v_shelves3_items, v_shelves4_items, v_shelves5_items))
    else (mm_bd1 (fX6_hasPart N x2 x5 v_shelves2_size) (fun (r_197 : Bool) =>
    if r_197 = false then
    (some ((-13 : Int32), v_shelves0_items, v_shelves1_items, v_shelves2_items, v_shelves3_items, v_shelves4_items, v_shelves5_items))
    else (mm_bd1 (fX6_hasPart N x4 x5 v_shelves0_size) (fun (r_200 : Bool) =>
    if r_200 = false then
    (some ((-13 : Int32), v_shelves0_items, v_shelves1_items, v_shelves2_items, v_shelves3_items, v_shelves4_items, v_shelves5_items))
    else (mm_ck (mm_cok x2 x4 x5 v_shelves2_items.length v_shelves0_items.length) (mm_nm (mm_cp v_shelves2_items v_shelves0_items x2 x4 x5) (fun (l_204 : List Int64) =>
    some (x5, l_204, v_shelves1_items, v_shelves2_items, v_shelves3_items, v_shelves4_items, v_shelves5_items)))))))))
    else (some ((-12 : Int32), v_shelves0_items, v_shelves1_items, v_shelves2_items, v_shelves3_items, v_shelves4_items, v_shelves5_items)))
    else (some ((-12 : Int32), v_shelves0_items, v_shelves1_items, v_shelves2_items, v_shelves3_items, v_shelves4_items, v_shelves5_items)))
    else (some ((-12 : Int32), v_shelves0_items, v_shelves1_items, v_shelves2_items, v_shelves3_items, v_shelves4_items, v_shelves5_items)))))
    else (if x3 = (1 : Int32) then
    (if v_shelves2_holds = 0 then
    (some ((-11 : Int32), v_shelves0_items, v_shelves1_items, v_shelves2_items, v_shelves3_items, v_shelves4_items, v_shelves5_items))
    else (if v_shelves1_holds = 0 then
    (some ((-11 : Int32), v_shelves0_items, v_shelves1_items, v_shelves2_items, v_shelves3_items, v_shelves4_items, v_shelves5_items))
    else (if v_shelves2_holds = (2 : Int32) then
    (if v_shelves1_holds = (2 : Int32) then
    (if v_shelves2_sort = v_shelves1_sort then
    (if x5 < 0 then
    (some ((-13 : Int32), v_shelves0_items, v_shelves1_items, v_shelves2_items, v_shelves3_items, v_shelves4_items, v_shelves5_items))
    else (mm_bd1 (fX6_hasPart N x2 x5 v_shelves2_size) (fun (r_212 : Bool) =>
    if r_212 = false then
    (some ((-13 : Int32), v_shelves0_items, v_shelves1_items, v_shelves2_items, v_shelves3_items, v_shelves4_items, v_shelves5_items))
    else (mm_bd1 (fX6_hasPart N x4 x5 v_shelves1_size) (fun (r_215 : Bool) =>
    if r_215 = false then
    (some ((-13 : Int32), v_shelves0_items, v_shelves1_items, v_shelves2_items, v_shelves3_items, v_shelves4_items, v_shelves5_items))
    else (mm_ck (mm_cok x2 x4 x5 v_shelves2_items.length v_shelves1_items.length) (mm_nm (mm_cp v_shelves2_items v_shelves1_items x2 x4 x5) (fun (l_219 : List Int64) =>
    some (x5, v_shelves0_items, l_219, v_shelves2_items, v_shelves3_items, v_shelves4_items, v_shelves5_items)))))))))
    else (some ((-12 : Int32), v_shelves0_items, v_shelves1_items, v_shelves2_items, v_shelves3_items, v_shelves4_items, v_shelves5_items)))
    else (some ((-12 : Int32), v_shelves0_items, v_shelves1_items, v_shelves2_items, v_shelves3_items, v_shelves4_items, v_shelves5_items)))
    else (some ((-12 : Int32), v_shelves0_items, v_shelves1_items, v_shelves2_items, v_shelves3_items, v_shelves4_items, v_shelves5_items)))))
    else (if x3 = (2 : Int32) then
    (if v_shelves2_holds = 0 then
    (some ((-11 : Int32), v_shelves0_items, v_shelves1_items, v_shelves2_items, v_shelves3_items, v_shelves4_items, v_shelves5_items))
    else (if v_shelves2_holds = 0 then
    (some ((-11 : Int32), v_shelves0_items, v_shelves1_items, v_shelves2_items, v_shelves3_items, v_shelves4_items, v_shelves5_items))
    else (if v_shelves2_holds = (2 : Int32) then
    (if v_shelves2_holds = (2 : Int32) then
    (if v_shelves2_sort = v_shelves2_sort then
    (if x5 < 0 then
    (some ((-13 : Int32), v_shelves0_items, v_shelves1_items, v_shelves2_items, v_shelves3_items, v_shelves4_items, v_shelves5_items))
    else (mm_bd1 (fX6_hasPart N x2 x5 v_shelves2_size) (fun (r_227 : Bool) =>
    if r_227 = false then
    (some ((-13 : Int32), v_shelves0_items, v_shelves1_items, v_shelves2_items, v_shelves3_items, v_shelves4_items, v_shelves5_items))
    else (mm_bd1 (fX6_hasPart N x4 x5 v_shelves2_size) (fun (r_230 : Bool) =>
    if r_230 = false then
    (some ((-13 : Int32), v_shelves0_items, v_shelves1_items, v_shelves2_items, v_shelves3_items, v_shelves4_items, v_shelves5_items))
    else (mm_ck (mm_cok x2 x4 x5 v_shelves2_items.length v_shelves2_items.length) (mm_nm (mm_cp v_shelves2_items v_shelves2_items x2 x4 x5) (fun (l_234 : List Int64) =>
    some (x5, v_shelves0_items, v_shelves1_items, l_234, v_shelves3_items, v_shelves4_items, v_shelves5_items)))))))))
    else (some ((-12 : Int32), v_shelves0_items, v_shelves1_items, v_shelves2_items, v_shelves3_items, v_shelves4_items, v_shelves5_items)))
    else (some ((-12 : Int32), v_shelves0_items, v_shelves1_items, v_shelves2_items, v_shelves3_items, v_shelves4_items, v_shelves5_items)))
    else (some ((-12 : Int32), v_shelves0_items, v_shelves1_items, v_shelves2_items, v_shelves3_items, v_shelves4_items, v_shelves5_items)))))
    else (if x3 = (3 : Int32) then
    (if v_shelves2_holds = 0 then
    (some ((-11 : Int32), v_shelves0_items, v_shelves1_items, v_shelves2_items, v_shelves3_items, v_shelves4_items, v_shelves5_items))
    else (if v_shelves3_holds = 0 then
    (some ((-11 : Int32), v_shelves0_items, v_shelves1_items, v_shelves2_items, v_shelves3_items, v_shelves4_items, v_shelves5_items))
    else (if v_shelves2_holds = (2 : Int32) then
    (if v_shelves3_holds = (2 : Int32) then
    (if v_shelves2_sort = v_shelves3_sort then
    (if x5 < 0 then
    (some ((-13 : Int32), v_shelves0_items, v_shelves1_items, v_shelves2_items, v_shelves3_items, v_shelves4_items, v_shelves5_items))
    else (mm_bd1 (fX6_hasPart N x2 x5 v_shelves2_size) (fun (r_242 : Bool) =>
    if r_242 = false then
    (some ((-13 : Int32), v_shelves0_items, v_shelves1_items, v_shelves2_items, v_shelves3_items, v_shelves4_items, v_shelves5_items))
    else (mm_bd1 (fX6_hasPart N x4 x5 v_shelves3_size) (fun (r_245 : Bool) =>
    if r_245 = false then
    (some ((-13 : Int32), v_shelves0_items, v_shelves1_items, v_shelves2_items, v_shelves3_items, v_shelves4_items, v_shelves5_items))
    else (mm_ck (mm_cok x2 x4 x5 v_shelves2_items.length v_shelves3_items.length) (mm_nm (mm_cp v_shelves2_items v_shelves3_items x2 x4 x5) (fun (l_249 : List Int64) =>
    some (x5, v_shelves0_items, v_shelves1_items, v_shelves2_items, l_249, v_shelves4_items, v_shelves5_items)))))))))
    else (some ((-12 : Int32), v_shelves0_items, v_shelves1_items, v_shelves2_items, v_shelves3_items, v_shelves4_items, v_shelves5_items)))
    else (some ((-12 : Int32), v_shelves0_items, v_shelves1_items, v_shelves2_items, v_shelves3_items, v_shelves4_items, v_shelves5_items)))
    else (some ((-12 : Int32), v_shelves0_items, v_shelves1_items, v_shelves2_items, v_shelves3_items, v_shelves4_items, v_shelves5_items)))))
    else (if x3 = (4 : Int32) then
    (if v_shelves2_holds = 0 then
    (some ((-11 : Int32), v_shelves0_items, v_shelves1_items, v_shelves2_items, v_shelves3_items, v_shelves4_items, v_shelves5_items))
    else (if v_shelves4_holds = 0 then
    (some ((-11 : Int32), v_shelves0_items, v_shelves1_items, v_shelves2_items, v_shelves3_items, v_shelves4_items, v_shelves5_items))
    else (if v_shelves2_holds = (2 : Int32) then
    (if v_shelves4_holds = (2 : Int32) then
    (if v_shelves2_sort = v_shelves4_sort then
    (if x5 < 0 then
    (some ((-13 : Int32), v_shelves0_items, v_shelves1_items, v_shelves2_items, v_shelves3_items, v_shelves4_items, v_shelves5_items))
    else (mm_bd1 (fX6_hasPart N x2 x5 v_shelves2_size) (fun (r_257 : Bool) =>
    if r_257 = false then
    (some ((-13 : Int32), v_shelves0_items, v_shelves1_items, v_shelves2_items, v_shelves3_items, v_shelves4_items, v_shelves5_items))
    else (mm_bd1 (fX6_hasPart N x4 x5 v_shelves4_size) (fun (r_260 : Bool) =>
    if r_260 = false then
    (some ((-13 : Int32), v_shelves0_items, v_shelves1_items, v_shelves2_items, v_shelves3_items, v_shelves4_items, v_shelves5_items))
    else (mm_ck (mm_cok x2 x4 x5 v_shelves2_items.length v_shelves4_items.length) (mm_nm (mm_cp v_shelves2_items v_shelves4_items x2 x4 x5) (fun (l_264 : List Int64) =>
    some (x5, v_shelves0_items, v_shelves1_items, v_shelves2_items, v_shelves3_items, l_264, v_shelves5_items)))))))))
    else (some ((-12 : Int32), v_shelves0_items, v_shelves1_items, v_shelves2_items, v_shelves3_items, v_shelves4_items, v_shelves5_items)))
    else (some ((-12 : Int32), v_shelves0_items, v_shelves1_items, v_shelves2_items, v_shelves3_items, v_shelves4_items, v_shelves5_items)))
    else (some ((-12 : Int32), v_shelves0_items, v_shelves1_items, v_shelves2_items, v_shelves3_items, v_shelves4_items, v_shelves5_items)))))
    else (if x3 = (5 : Int32) then
    (if v_shelves2_holds = 0 then
    (some ((-11 : Int32), v_shelves0_items, v_shelves1_items, v_shelves2_items, v_shelves3_items, v_shelves4_items, v_shelves5_items))
    else (if v_shelves5_holds = 0 then
    (some ((-11 : Int32), v_shelves0_items, v_shelves1_items, v_shelves2_items, v_shelves3_items, v_shelves4_items, v_shelves5_items))
    else (if v_shelves2_holds = (2 : Int32) then
    (if v_shelves5_holds = (2 : Int32) then
    (if v_shelves2_sort = v_shelves5_sort then
    (if x5 < 0 then
    (some ((-13 : Int32), v_shelves0_items, v_shelves1_items, v_shelves2_items, v_shelves3_items, v_shelves4_items, v_shelves5_items))
    else (mm_bd1 (fX6_hasPart N x2 x5 v_shelves2_size) (fun (r_272 : Bool) =>
    if r_272 = false then
    (some ((-13 : Int32), v_shelves0_items, v_shelves1_items, v_shelves2_items, v_shelves3_items, v_shelves4_items, v_shelves5_items))
    else (mm_bd1 (fX6_hasPart N x4 x5 v_shelves5_size) (fun (r_275 : Bool) =>
    if r_275 = false then
    (some ((-13 : Int32), v_shelves0_items, v_shelves1_items, v_shelves2_items, v_shelves3_items, v_shelves4_items, v_shelves5_items))
    else (mm_ck (mm_cok x2 x4 x5 v_shelves2_items.length v_shelves5_items.length) (mm_nm (mm_cp v_shelves2_items v_shelves5_items x2 x4 x5) (fun (l_279 : List Int64) =>
    some (x5, v_shelves0_items, v_shelves1_items, v_shelves2_items, v_shelves3_items, v_shelves4_items, l_279)))))))))
    else (some ((-12 : Int32), v_shelves0_items, v_shelves1_items, v_shelves2_items, v_shelves3_items, v_shelves4_items, v_shelves5_items)))
    else (some ((-12 : Int32), v_shelves0_items, v_shelves1_items, v_shelves2_items, v_shelves3_items, v_shelves4_items, v_shelves5_items)))
    else (some ((-12 : Int32), v_shelves0_items, v_shelves1_items, v_shelves2_items, v_shelves3_items, v_shelves4_items, v_shelves5_items)))))
    else (none)))))))
    else (if x1 = (3 : Int32) then
    (if x3 = (0 : Int32) then
    (if v_shelves3_holds = 0 then
    (some ((-11 : Int32), v_shelves0_items, v_shelves1_items, v_shelves2_items, v_shelves3_items, v_shelves4_items, v_shelves5_items))
    else (if v_shelves0_holds = 0 then
    (some ((-11 : Int32), v_shelves0_items, v_shelves1_items, v_shelves2_items, v_shelves3_items, v_shelves4_items, v_shelves5_items))
    else (if v_shelves3_holds = (2 : Int32) then
    (if v_shelves0_holds = (2 : Int32) then
    (if v_shelves3_sort = v_shelves0_sort then
    (if x5 < 0 then
    (some ((-13 : Int32), v_shelves0_items, v_shelves1_items, v_shelves2_items, v_shelves3_items, v_shelves4_items, v_shelves5_items))
    else (mm_bd1 (fX6_hasPart N x2 x5 v_shelves3_size) (fun (r_288 : Bool) =>
    if r_288 = false then
    (some ((-13 : Int32), v_shelves0_items, v_shelves1_items, v_shelves2_items, v_shelves3_items, v_shelves4_items, v_shelves5_items))
    else (mm_bd1 (fX6_hasPart N x4 x5 v_shelves0_size) (fun (r_291 : Bool) =>
    if r_291 = false then
    (some ((-13 : Int32), v_shelves0_items, v_shelves1_items, v_shelves2_items, v_shelves3_items, v_shelves4_items, v_shelves5_items))
    else (mm_ck (mm_cok x2 x4 x5 v_shelves3_items.length v_shelves0_items.length) (mm_nm (mm_cp v_shelves3_items v_shelves0_items x2 x4 x5) (fun (l_295 : List Int64) =>
    some (x5, l_295, v_shelves1_items, v_shelves2_items, v_shelves3_items, v_shelves4_items, v_shelves5_items)))))))))
    else (some ((-12 : Int32), v_shelves0_items, v_shelves1_items, v_shelves2_items, v_shelves3_items, v_shelves4_items, v_shelves5_items)))
    else (some ((-12 : Int32), v_shelves0_items, v_shelves1_items, v_shelves2_items, v_shelves3_items, v_shelves4_items, v_shelves5_items)))
    else (some ((-12 : Int32), v_shelves0_items, v_shelves1_items, v_shelves2_items, v_shelves3_items, v_shelves4_items, v_shelves5_items)))))
    else (if x3 = (1 : Int32) then
    (if v_shelves3_holds = 0 then
    (some ((-11 : Int32), v_shelves0_items, v_shelves1_items, v_shelves2_items, v_shelves3_items, v_shelves4_items, v_shelves5_items))
    else (if v_shelves1_holds = 0 then
    (some ((-11 : Int32), v_shelves0_items, v_shelves1_items, v_shelves2_items, v_shelves3_items, v_shelves4_items, v_shelves5_items))
    else (if v_shelves3_holds = (2 : Int32) then
    (if v_shelves1_holds = (2 : Int32) then
    (if v_shelves3_sort = v_shelves1_sort then
    (if x5 < 0 then
    (some ((-13 : Int32), v_shelves0_items, v_shelves1_items, v_shelves2_items, v_shelves3_items, v_shelves4_items, v_shelves5_items))
    else (mm_bd1 (fX6_hasPart N x2 x5 v_shelves3_size) (fun (r_303 : Bool) =>
    if r_303 = false then
    (some ((-13 : Int32), v_shelves0_items, v_shelves1_items, v_shelves2_items, v_shelves3_items, v_shelves4_items, v_shelves5_items))
    else (mm_bd1 (fX6_hasPart N x4 x5 v_shelves1_size) (fun (r_306 : Bool) =>
    if r_306 = false then
    (some ((-13 : Int32), v_shelves0_items, v_shelves1_items, v_shelves2_items, v_shelves3_items, v_shelves4_items, v_shelves5_items))
    else (mm_ck (mm_cok x2 x4 x5 v_shelves3_items.length v_shelves1_items.length) (mm_nm (mm_cp v_shelves3_items v_shelves1_items x2 x4 x5) (fun (l_310 : List Int64) =>
    some (x5, v_shelves0_items, l_310, v_shelves2_items, v_shelves3_items, v_shelves4_items, v_shelves5_items)))))))))
    else (some ((-12 : Int32), v_shelves0_items, v_shelves1_items, v_shelves2_items, v_shelves3_items, v_shelves4_items, v_shelves5_items)))
    else (some ((-12 : Int32), v_shelves0_items, v_shelves1_items, v_shelves2_items, v_shelves3_items, v_shelves4_items, v_shelves5_items)))
    else (some ((-12 : Int32), v_shelves0_items, v_shelves1_items, v_shelves2_items, v_shelves3_items, v_shelves4_items, v_shelves5_items)))))
    else (if x3 = (2 : Int32) then
    (if v_shelves3_holds = 0 then
    (some ((-11 : Int32), v_shelves0_items, v_shelves1_items, v_shelves2_items, v_shelves3_items, v_shelves4_items, v_shelves5_items))
    else (if v_shelves2_holds = 0 then
    (some ((-11 : Int32), v_shelves0_items, v_shelves1_items, v_shelves2_items, v_shelves3_items, v_shelves4_items, v_shelves5_items))
    else (if v_shelves3_holds = (2 : Int32) then
    (if v_shelves2_holds = (2 : Int32) then
    (if v_shelves3_sort = v_shelves2_sort then
    (if x5 < 0 then
    (some ((-13 : Int32), v_shelves0_items, v_shelves1_items, v_shelves2_items, v_shelves3_items, v_shelves4_items, v_shelves5_items))
    else (mm_bd1 (fX6_hasPart N x2 x5 v_shelves3_size) (fun (r_318 : Bool) =>
    if r_318 = false then
    (some ((-13 : Int32), v_shelves0_items, v_shelves1_items, v_shelves2_items, v_shelves3_items, v_shelves4_items, v_shelves5_items))
    else (mm_bd1 (fX6_hasPart N x4 x5 v_shelves2_size) (fun (r_321 : Bool) =>
    if r_321 = false then
    (some ((-13 : Int32), v_shelves0_items, v_shelves1_items, v_shelves2_items, v_shelves3_items, v_shelves4_items, v_shelves5_items))
    else (mm_ck (mm_cok x2 x4 x5 v_shelves3_items.length v_shelves2_items.length) (mm_nm (mm_cp v_shelves3_items v_shelves2_items x2 x4 x5) (fun (l_325 : List Int64) =>
    some (x5, v_shelves0_items, v_shelves1_items, l_325, v_shelves3_items, v_shelves4_items, v_shelves5_items)))))))))
    else (some ((-12 : Int32), v_shelves0_items, v_shelves1_items, v_shelves2_items, v_shelves3_items, v_shelves4_items, v_shelves5_items)))
    else (some ((-12 : Int32), v_shelves0_items, v_shelves1_items, v_shelves2_items, v_shelves3_items, v_shelves4_items, v_shelves5_items)))
    else (some ((-12 : Int32), v_shelves0_items, v_shelves1_items, v_shelves2_items, v_shelves3_items, v_shelves4_items, v_shelves5_items)))))
    else (if x3 = (3 : Int32) then
    (if v_shelves3_holds = 0 then
    (some ((-11 : Int32), v_shelves0_items, v_shelves1_items, v_shelves2_items, v_shelves3_items, v_shelves4_items, v_shelves5_items))
    else (if v_shelves3_holds = 0 then
    (some ((-11 : Int32), v_shelves0_items, v_shelves1_items, v_shelves2_items, v_shelves3_items, v_shelves4_items, v_shelves5_items))
    else (if v_shelves3_holds = (2 : Int32) then
    (if v_shelves3_holds = (2 : Int32) then
    (if v_shelves3_sort = v_shelves3_sort then
    (if x5 < 0 then
    (some ((-13 : Int32), v_shelves0_items, v_shelves1_items, v_shelves2_items, v_shelves3_items, v_shelves4_items, v_shelves5_items))
    else (mm_bd1 (fX6_hasPart N x2 x5 v_shelves3_size) (fun (r_333 : Bool) =>
    if r_333 = false then
    (some ((-13 : Int32), v_shelves0_items, v_shelves1_items, v_shelves2_items, v_shelves3_items, v_shelves4_items, v_shelves5_items))
    else (mm_bd1 (fX6_hasPart N x4 x5 v_shelves3_size) (fun (r_336 : Bool) =>
    if r_336 = false then
    (some ((-13 : Int32), v_shelves0_items, v_shelves1_items, v_shelves2_items, v_shelves3_items, v_shelves4_items, v_shelves5_items))
    else (mm_ck (mm_cok x2 x4 x5 v_shelves3_items.length v_shelves3_items.length) (mm_nm (mm_cp v_shelves3_items v_shelves3_items x2 x4 x5) (fun (l_340 : List Int64) =>
    some (x5, v_shelves0_items, v_shelves1_items, v_shelves2_items, l_340, v_shelves4_items, v_shelves5_items)))))))))
    else (some ((-12 : Int32), v_shelves0_items, v_shelves1_items, v_shelves2_items, v_shelves3_items, v_shelves4_items, v_shelves5_items)))
    else (some ((-12 : Int32), v_shelves0_items, v_shelves1_items, v_shelves2_items, v_shelves3_items, v_shelves4_items, v_shelves5_items)))
    else (some ((-12 : Int32), v_shelves0_items, v_shelves1_items, v_shelves2_items, v_shelves3_items, v_shelves4_items, v_shelves5_items)))))
    else (if x3 = (4 : Int32) then
    (if v_shelves3_holds = 0 then
    (some ((-11 : Int32), v_shelves0_items, v_shelves1_items, v_shelves2_items, v_shelves3_items, v_shelves4_items, v_shelves5_items))
    else (if v_shelves4_holds = 0 then
    (some ((-11 : Int32), v_shelves0_items, v_shelves1_items, v_shelves2_items, v_shelves3_items, v_shelves4_items, v_shelves5_items))
    else (if v_shelves3_holds = (2 : Int32) then
    (if v_shelves4_holds = (2 : Int32) then
    (if v_shelves3_sort = v_shelves4_sort then
    (if x5 < 0 then
    (some ((-13 : Int32), v_shelves0_items, v_shelves1_items, v_shelves2_items, v_shelves3_items, v_shelves4_items, v_shelves5_items))
    else (mm_bd1 (fX6_hasPart N x2 x5 v_shelves3_size) (fun (r_348 : Bool) =>
    if r_348 = false then
    (some ((-13 : Int32), v_shelves0_items, v_shelves1_items, v_shelves2_items, v_shelves3_items, v_shelves4_items, v_shelves5_items))
    else (mm_bd1 (fX6_hasPart N x4 x5 v_shelves4_size) (fun (r_351 : Bool) =>
    if r_351 = false then
    (some ((-13 : Int32), v_shelves0_items, v_shelves1_items, v_shelves2_items, v_shelves3_items, v_shelves4_items, v_shelves5_items))
    else (mm_ck (mm_cok x2 x4 x5 v_shelves3_items.length v_shelves4_items.length) (mm_nm (mm_cp v_shelves3_items v_shelves4_items x2 x4 x5) (fun (l_355 : List Int64) =>
    some (x5, v_shelves0_items, v_shelves1_items, v_shelves2_items, v_shelves3_items, l_355, v_shelves5_items)))))))))
    else (some ((-12 : Int32), v_shelves0_items, v_shelves1_items, v_shelves2_items, v_shelves3_items, v_shelves4_items, v_shelves5_items)))
    else (some ((-12 : Int32), v_shelves0_items, v_shelves1_items, v_shelves2_items, v_shelves3_items, v_shelves4_items, v_shelves5_items)))
    else (some ((-12 : Int32), v_shelves0_items, v_shelves1_items, v_shelves2_items, v_shelves3_items, v_shelves4_items, v_shelves5_items)))))
    else (if x3 = (5 : Int32) then
    (if v_shelves3_holds = 0 then
    (some ((-11 : Int32), v_shelves0_items, v_shelves1_items, v_shelves2_items, v_shelves3_items, v_shelves4_items, v_shelves5_items))
    else (if v_shelves5_holds = 0 then
    (some ((-11 : Int32), v_shelves0_items, v_shelves1_items, v_shelves2_items, v_shelves3_items, v_shelves4_items, v_shelves5_items))
    else (if v_shelves3_holds = (2 : Int32) then
    (if v_shelves5_holds = (2 : Int32) then
    (if v_shelves3_sort = v_shelves5_sort then
    (if x5 < 0 then
    (some ((-13 : Int32), v_shelves0_items, v_shelves1_items, v_shelves2_items, v_shelves3_items, v_shelves4_items, v_shelves5_items))
    else (mm_bd1 (fX6_hasPart N x2 x5 v_shelves3_size) (fun (r_363 : Bool) =>
    if r_363 = false then
    (some ((-13 : Int32), v_shelves0_items, v_shelves1_items, v_shelves2_items, v_shelves3_items, v_shelves4_items, v_shelves5_items))
    else (mm_bd1 (fX6_hasPart N x4 x5 v_shelves5_size) (fun (r_366 : Bool) =>
    if r_366 = false then
    (some ((-13 : Int32), v_shelves0_items, v_shelves1_items, v_shelves2_items, v_shelves3_items, v_shelves4_items, v_shelves5_items))
    else (mm_ck (mm_cok x2 x4 x5 v_shelves3_items.length v_shelves5_items.length) (mm_nm (mm_cp v_shelves3_items v_shelves5_items x2 x4 x5) (fun (l_370 : List Int64) =>
    some (x5, v_shelves0_items, v_shelves1_items, v_shelves2_items, v_shelves3_items, v_shelves4_items, l_370)))))))))
    else (some ((-12 : Int32), v_shelves0_items, v_shelves1_items, v_shelves2_items, v_shelves3_items, v_shelves4_items, v_shelves5_items)))
    else (some ((-12 : Int32), v_shelves0_items, v_shelves1_items, v_shelves2_items, v_shelves3_items, v_shelves4_items, v_shelves5_items)))
    else (some ((-12 : Int32), v_shelves0_items, v_shelves1_items, v_shelves2_items, v_shelves3_items, v_shelves4_items, v_shelves5_items)))))
    else (none)))))))
    else (if x1 = (4 : Int32) then
    (if x3 = (0 : Int32) then
    (if v_shelves4_holds = 0 then
    (some ((-11 : Int32), v_shelves0_items, v_shelves1_items, v_shelves2_items, v_shelves3_items, v_shelves4_items, v_shelves5_items))
    else (if v_shelves0_holds = 0 then
    (some ((-11 : Int32), v_shelves0_items, v_shelves1_items, v_shelves2_items, v_shelves3_items, v_shelves4_items, v_shelves5_items))
    else (if v_shelves4_holds = (2 : Int32) then
    (if v_shelves0_holds = (2 : Int32) then
    (if v_shelves4_sort = v_shelves0_sort then
    (if x5 < 0 then
    (some ((-13 : Int32), v_shelves0_items, v_shelves1_items, v_shelves2_items, v_shelves3_items, v_shelves4_items, v_shelves5_items))
    else (mm_bd1 (fX6_hasPart N x2 x5 v_shelves4_size) (fun (r_379 : Bool) =>
    if r_379 = false then
    (some ((-13 : Int32), v_shelves0_items, v_shelves1_items, v_shelves2_items, v_shelves3_items, v_shelves4_items, v_shelves5_items))
    else (mm_bd1 (fX6_hasPart N x4 x5 v_shelves0_size) (fun (r_382 : Bool) =>
    if r_382 = false then
    (some ((-13 : Int32), v_shelves0_items, v_shelves1_items, v_shelves2_items, v_shelves3_items, v_shelves4_items, v_shelves5_items))
    else (mm_ck (mm_cok x2 x4 x5 v_shelves4_items.length v_shelves0_items.length) (mm_nm (mm_cp v_shelves4_items v_shelves0_items x2 x4 x5) (fun (l_386 : List Int64) =>
    some (x5, l_386, v_shelves1_items, v_shelves2_items, v_shelves3_items, v_shelves4_items, v_shelves5_items)))))))))
    else (some ((-12 : Int32), v_shelves0_items, v_shelves1_items, v_shelves2_items, v_shelves3_items, v_shelves4_items, v_shelves5_items)))
    else (some ((-12 : Int32), v_shelves0_items, v_shelves1_items, v_shelves2_items, v_shelves3_items, v_shelves4_items, v_shelves5_items)))
    else (some ((-12 : Int32), v_shelves0_items, v_shelves1_items, v_shelves2_items, v_shelves3_items, v_shelves4_items, v_shelves5_items)))))
    else (if x3 = (1 : Int32) then
    (if v_shelves4_holds = 0 then
    (some ((-11 : Int32), v_shelves0_items, v_shelves1_items, v_shelves2_items, v_shelves3_items, v_shelves4_items, v_shelves5_items))
    else (if v_shelves1_holds = 0 then
    (some ((-11 : Int32), v_shelves0_items, v_shelves1_items, v_shelves2_items, v_shelves3_items, v_shelves4_items, v_shelves5_items))
    else (if v_shelves4_holds = (2 : Int32) then
    (if v_shelves1_holds = (2 : Int32) then
    (if v_shelves4_sort = v_shelves1_sort then
    (if x5 < 0 then
    (some ((-13 : Int32), v_shelves0_items, v_shelves1_items, v_shelves2_items, v_shelves3_items, v_shelves4_items, v_shelves5_items))
    else (mm_bd1 (fX6_hasPart N x2 x5 v_shelves4_size) (fun (r_394 : Bool) =>
    if r_394 = false then
    (some ((-13 : Int32), v_shelves0_items, v_shelves1_items, v_shelves2_items, v_shelves3_items, v_shelves4_items, v_shelves5_items))
    else (mm_bd1 (fX6_hasPart N x4 x5 v_shelves1_size) (fun (r_397 : Bool) =>
    if r_397 = false then
    (some ((-13 : Int32), v_shelves0_items, v_shelves1_items, v_shelves2_items, v_shelves3_items, v_shelves4_items, v_shelves5_items))
    else (mm_ck (mm_cok x2 x4 x5 v_shelves4_items.length v_shelves1_items.length) (mm_nm (mm_cp v_shelves4_items v_shelves1_items x2 x4 x5) (fun (l_401 : List Int64) =>
    some (x5, v_shelves0_items, l_401, v_shelves2_items, v_shelves3_items, v_shelves4_items, v_shelves5_items)))))))))
    else (some ((-12 : Int32), v_shelves0_items, v_shelves1_items, v_shelves2_items, v_shelves3_items, v_shelves4_items, v_shelves5_items)))
    else (some ((-12 : Int32), v_shelves0_items, v_shelves1_items, v_shelves2_items, v_shelves3_items, v_shelves4_items, v_shelves5_items)))
    else (some ((-12 : Int32), v_shelves0_items, v_shelves1_items, v_shelves2_items, v_shelves3_items, v_shelves4_items, v_shelves5_items)))))
    else (if x3 = (2 : Int32) then
    (if v_shelves4_holds = 0 then
    (some ((-11 : Int32), v_shelves0_items, v_shelves1_items, v_shelves2_items, v_shelves3_items, v_shelves4_items, v_shelves5_items))
    else (if v_shelves2_holds = 0 then
    (some ((-11 : Int32), v_shelves0_items, v_shelves1_items, v_shelves2_items, v_shelves3_items, v_shelves4_items, v_shelves5_items))
    else (if v_shelves4_holds = (2 : Int32) then
    (if v_shelves2_holds = (2 : Int32) then
    (if v_shelves4_sort = v_shelves2_sort then
    (if x5 < 0 then
    (some ((-13 : Int32), v_shelves0_items, v_shelves1_items, v_shelves2_items, v_shelves3_items, v_shelves4_items, v_shelves5_items))
    else (mm_bd1 (fX6_hasPart N x2 x5 v_shelves4_size) (fun (r_409 : Bool) =>
    if r_409 = false then
    (some ((-13 : Int32), v_shelves0_items, v_shelves1_items, v_shelves2_items, v_shelves3_items, v_shelves4_items, v_shelves5_items))
    else (mm_bd1 (fX6_hasPart N x4 x5 v_shelves2_size) (fun (r_412 : Bool) =>
    if r_412 = false then
    (some ((-13 : Int32), v_shelves0_items, v_shelves1_items, v_shelves2_items, v_shelves3_items, v_shelves4_items, v_shelves5_items))
    else (mm_ck (mm_cok x2 x4 x5 v_shelves4_items.length v_shelves2_items.length) (mm_nm (mm_cp v_shelves4_items v_shelves2_items x2 x4 x5) (fun (l_416 : List Int64) =>
    some (x5, v_shelves0_items, v_shelves1_items, l_416, v_shelves3_items, v_shelves4_items, v_shelves5_items)))))))))
    else (some ((-12 : Int32), v_shelves0_items, v_shelves1_items, v_shelves2_items, v_shelves3_items, v_shelves4_items, v_shelves5_items)))
    else (some ((-12 : Int32), v_shelves0_items, v_shelves1_items, v_shelves2_items, v_shelves3_items, v_shelves4_items, v_shelves5_items)))
    else (some ((-12 : Int32), v_shelves0_items, v_shelves1_items, v_shelves2_items, v_shelves3_items, v_shelves4_items, v_shelves5_items)))))
    else (if x3 = (3 : Int32) then
    (if v_shelves4_holds = 0 then
    (some ((-11 : Int32), v_shelves0_items, v_shelves1_items, v_shelves2_items, v_shelves3_items, v_shelves4_items, v_shelves5_items))
    else (if v_shelves3_holds = 0 then
    (some ((-11 : Int32), v_shelves0_items, v_shelves1_items, v_shelves2_items, v_shelves3_items, v_shelves4_items, v_shelves5_items))
    else (if v_shelves4_holds = (2 : Int32) then
    (if v_shelves3_holds = (2 : Int32) then
    (if v_shelves4_sort = v_shelves3_sort then
    (if x5 < 0 then
    (some ((-13 : Int32), v_shelves0_items, v_shelves1_items, v_shelves2_items, v_shelves3_items, v_shelves4_items, v_shelves5_items))
    else (mm_bd1 (fX6_hasPart N x2 x5 v_shelves4_size) (fun (r_424 : Bool) =>
    if r_424 = false then
    (some ((-13 : Int32), v_shelves0_items, v_shelves1_items, v_shelves2_items, v_shelves3_items, v_shelves4_items, v_shelves5_items))
    else (mm_bd1 (fX6_hasPart N x4 x5 v_shelves3_size) (fun (r_427 : Bool) =>
    if r_427 = false then
    (some ((-13 : Int32), v_shelves0_items, v_shelves1_items, v_shelves2_items, v_shelves3_items, v_shelves4_items, v_shelves5_items))
    else (mm_ck (mm_cok x2 x4 x5 v_shelves4_items.length v_shelves3_items.length) (mm_nm (mm_cp v_shelves4_items v_shelves3_items x2 x4 x5) (fun (l_431 : List Int64) =>
    some (x5, v_shelves0_items, v_shelves1_items, v_shelves2_items, l_431, v_shelves4_items, v_shelves5_items)))))))))
    else (some ((-12 : Int32), v_shelves0_items, v_shelves1_items, v_shelves2_items, v_shelves3_items, v_shelves4_items, v_shelves5_items)))
    else (some ((-12 : Int32), v_shelves0_items, v_shelves1_items, v_shelves2_items, v_shelves3_items, v_shelves4_items, v_shelves5_items)))
    else (some ((-12 : Int32), v_shelves0_items, v_shelves1_items, v_shelves2_items, v_shelves3_items, v_shelves4_items, v_shelves5_items)))))
    else (if x3 = (4 : Int32) then
    (if v_shelves4_holds = 0 then
    (some ((-11 : Int32), v_shelves0_items, v_shelves1_items, v_shelves2_items, v_shelves3_items, v_shelves4_items, v_shelves5_items))
    else (if v_shelves4_holds = 0 then
    (some ((-11 : Int32), v_shelves0_items, v_shelves1_items, v_shelves2_items, v_shelves3_items, v_shelves4_items, v_shelves5_items))
    else (if v_shelves4_holds = (2 : Int32) then
    (if v_shelves4_holds = (2 : Int32) then
    (if v_shelves4_sort = v_shelves4_sort then
    (if x5 < 0 then
    (some ((-13 : Int32), v_shelves0_items, v_shelves1_items, v_shelves2_items, v_shelves3_items, v_shelves4_items, v_shelves5_items))
    else (mm_bd1 (fX6_hasPart N x2 x5 v_shelves4_size) (fun (r_439 : Bool) =>
    if r_439 = false then
    (some ((-13 : Int32), v_shelves0_items, v_shelves1_items, v_shelves2_items, v_shelves3_items, v_shelves4_items, v_shelves5_items))
    else (mm_bd1 (fX6_hasPart N x4 x5 v_shelves4_size) (fun (r_442 : Bool) =>
    if r_442 = false then
    (some ((-13 : Int32), v_shelves0_items, v_shelves1_items, v_shelves2_items, v_shelves3_items, v_shelves4_items, v_shelves5_items))
    else (mm_ck (mm_cok x2 x4 x5 v_shelves4_items.length v_shelves4_items.length) (mm_nm (mm_cp v_shelves4_items v_shelves4_items x2 x4 x5) (fun (l_446 : List Int64) =>
    some (x5, v_shelves0_items, v_shelves1_items, v_shelves2_items, v_shelves3_items, l_446, v_shelves5_items)))))))))
    else (some ((-12 : Int32), v_shelves0_items, v_shelves1_items, v_shelves2_items, v_shelves3_items, v_shelves4_items, v_shelves5_items)))
    else (some ((-12 : Int32), v_shelves0_items, v_shelves1_items, v_shelves2_items, v_shelves3_items, v_shelves4_items, v_shelves5_items)))
    else (some ((-12 : Int32), v_shelves0_items, v_shelves1_items, v_shelves2_items, v_shelves3_items, v_shelves4_items, v_shelves5_items)))))
    else (if x3 = (5 : Int32) then
    (if v_shelves4_holds = 0 then
    (some ((-11 : Int32), v_shelves0_items, v_shelves1_items, v_shelves2_items, v_shelves3_items, v_shelves4_items, v_shelves5_items))
    else (if v_shelves5_holds = 0 then
    (some ((-11 : Int32), v_shelves0_items, v_shelves1_items, v_shelves2_items, v_shelves3_items, v_shelves4_items, v_shelves5_items))
    else (if v_shelves4_holds = (2 : Int32) then
    (if v_shelves5_holds = (2 : Int32) then
    (if v_shelves4_sort = v_shelves5_sort then
    (if x5 < 0 then
    (some ((-13 : Int32), v_shelves0_items, v_shelves1_items, v_shelves2_items, v_shelves3_items, v_shelves4_items, v_shelves5_items))
    else (mm_bd1 (fX6_hasPart N x2 x5 v_shelves4_size) (fun (r_454 : Bool) =>
    if r_454 = false then
    (some ((-13 : Int32), v_shelves0_items, v_shelves1_items, v_shelves2_items, v_shelves3_items, v_shelves4_items, v_shelves5_items))
    else (mm_bd1 (fX6_hasPart N x4 x5 v_shelves5_size) (fun (r_457 : Bool) =>
    if r_457 = false then
    (some ((-13 : Int32), v_shelves0_items, v_shelves1_items, v_shelves2_items, v_shelves3_items, v_shelves4_items, v_shelves5_items))
    else (mm_ck (mm_cok x2 x4 x5 v_shelves4_items.length v_shelves5_items.length) (mm_nm (mm_cp v_shelves4_items v_shelves5_items x2 x4 x5) (fun (l_461 : List Int64) =>
    some (x5, v_shelves0_items, v_shelves1_items, v_shelves2_items, v_shelves3_items, v_shelves4_items, l_461)))))))))
    else (some ((-12 : Int32), v_shelves0_items, v_shelves1_items, v_shelves2_items, v_shelves3_items, v_shelves4_items, v_shelves5_items)))
    else (some ((-12 : Int32), v_shelves0_items, v_shelves1_items, v_shelves2_items, v_shelves3_items, v_shelves4_items, v_shelves5_items)))
    else (some ((-12 : Int32), v_shelves0_items, v_shelves1_items, v_shelves2_items, v_shelves3_items, v_shelves4_items, v_shelves5_items)))))
    else (none)))))))
    else (if x1 = (5 : Int32) then
    (if x3 = (0 : Int32) then
    (if v_shelves5_holds = 0 then
    (some ((-11 : Int32), v_shelves0_items, v_shelves1_items, v_shelves2_items, v_shelves3_items, v_shelves4_items, v_shelves5_items))
    else (if v_shelves0_holds = 0 then
    (some ((-11 : Int32), v_shelves0_items, v_shelves1_items, v_shelves2_items, v_shelves3_items, v_shelves4_items, v_shelves5_items))
    else (if v_shelves5_holds = (2 : Int32) then
    (if v_shelves0_holds = (2 : Int32) then
    (if v_shelves5_sort = v_shelves0_sort then
    (if x5 < 0 then
    (some ((-13 : Int32), v_shelves0_items, v_shelves1_items, v_shelves2_items, v_shelves3_items, v_shelves4_items, v_shelves5_items))
    else (mm_bd1 (fX6_hasPart N x2 x5 v_shelves5_size) (fun (r_470 : Bool) =>
    if r_470 = false then
    (some ((-13 : Int32), v_shelves0_items, v_shelves1_items, v_shelves2_items, v_shelves3_items, v_shelves4_items, v_shelves5_items))
    else (mm_bd1 (fX6_hasPart N x4 x5 v_shelves0_size) (fun (r_473 : Bool) =>
    if r_473 = false then
    (some ((-13 : Int32), v_shelves0_items, v_shelves1_items, v_shelves2_items, v_shelves3_items, v_shelves4_items, v_shelves5_items))
    else (mm_ck (mm_cok x2 x4 x5 v_shelves5_items.length v_shelves0_items.length) (mm_nm (mm_cp v_shelves5_items v_shelves0_items x2 x4 x5) (fun (l_477 : List Int64) =>
    some (x5, l_477, v_shelves1_items, v_shelves2_items, v_shelves3_items, v_shelves4_items, v_shelves5_items)))))))))
    else (some ((-12 : Int32), v_shelves0_items, v_shelves1_items, v_shelves2_items, v_shelves3_items, v_shelves4_items, v_shelves5_items)))
    else (some ((-12 : Int32), v_shelves0_items, v_shelves1_items, v_shelves2_items, v_shelves3_items, v_shelves4_items, v_shelves5_items)))
    else (some ((-12 : Int32), v_shelves0_items, v_shelves1_items, v_shelves2_items, v_shelves3_items, v_shelves4_items, v_shelves5_items)))))
    else (if x3 = (1 : Int32) then
    (if v_shelves5_holds = 0 then
    (some ((-11 : Int32), v_shelves0_items, v_shelves1_items, v_shelves2_items, v_shelves3_items, v_shelves4_items, v_shelves5_items))
    else (if v_shelves1_holds = 0 then
    (some ((-11 : Int32), v_shelves0_items, v_shelves1_items, v_shelves2_items, v_shelves3_items, v_shelves4_items, v_shelves5_items))
    else (if v_shelves5_holds = (2 : Int32) then
    (if v_shelves1_holds = (2 : Int32) then
    (if v_shelves5_sort = v_shelves1_sort then
    (if x5 < 0 then
    (some ((-13 : Int32), v_shelves0_items, v_shelves1_items, v_shelves2_items, v_shelves3_items, v_shelves4_items, v_shelves5_items))
    else (mm_bd1 (fX6_hasPart N x2 x5 v_shelves5_size) (fun (r_485 : Bool) =>
    if r_485 = false then
    (some ((-13 : Int32), v_shelves0_items, v_shelves1_items, v_shelves2_items, v_shelves3_items, v_shelves4_items, v_shelves5_items))
    else (mm_bd1 (fX6_hasPart N x4 x5 v_shelves1_size) (fun (r_488 : Bool) =>
    if r_488 = false then
    (some ((-13 : Int32), v_shelves0_items, v_shelves1_items, v_shelves2_items, v_shelves3_items, v_shelves4_items, v_shelves5_items))
    else (mm_ck (mm_cok x2 x4 x5 v_shelves5_items.length v_shelves1_items.length) (mm_nm (mm_cp v_shelves5_items v_shelves1_items x2 x4 x5) (fun (l_492 : List Int64) =>
    some (x5, v_shelves0_items, l_492, v_shelves2_items, v_shelves3_items, v_shelves4_items, v_shelves5_items)))))))))
    else (some ((-12 : Int32), v_shelves0_items, v_shelves1_items, v_shelves2_items, v_shelves3_items, v_shelves4_items, v_shelves5_items)))
    else (some ((-12 : Int32), v_shelves0_items, v_shelves1_items, v_shelves2_items, v_shelves3_items, v_shelves4_items, v_shelves5_items)))
    else (some ((-12 : Int32), v_shelves0_items, v_shelves1_items, v_shelves2_items, v_shelves3_items, v_shelves4_items, v_shelves5_items)))))
    else (if x3 = (2 : Int32) then
    (if v_shelves5_holds = 0 then
    (some ((-11 : Int32), v_shelves0_items, v_shelves1_items, v_shelves2_items, v_shelves3_items, v_shelves4_items, v_shelves5_items))
    else (if v_shelves2_holds = 0 then
    (some ((-11 : Int32), v_shelves0_items, v_shelves1_items, v_shelves2_items, v_shelves3_items, v_shelves4_items, v_shelves5_items))
    else (if v_shelves5_holds = (2 : Int32) then
    (if v_shelves2_holds = (2 : Int32) then
    (if v_shelves5_sort = v_shelves2_sort then
    (if x5 < 0 then
    (some ((-13 : Int32), v_shelves0_items, v_shelves1_items, v_shelves2_items, v_shelves3_items, v_shelves4_items, v_shelves5_items))
    else (mm_bd1 (fX6_hasPart N x2 x5 v_shelves5_size) (fun (r_500 : Bool) =>
    if r_500 = false then
    (some ((-13 : Int32), v_shelves0_items, v_shelves1_items, v_shelves2_items, v_shelves3_items, v_shelves4_items, v_shelves5_items))
    else (mm_bd1 (fX6_hasPart N x4 x5 v_shelves2_size) (fun (r_503 : Bool) =>
    if r_503 = false then
    (some ((-13 : Int32), v_shelves0_items, v_shelves1_items, v_shelves2_items, v_shelves3_items, v_shelves4_items, v_shelves5_items))
    else (mm_ck (mm_cok x2 x4 x5 v_shelves5_items.length v_shelves2_items.length) (mm_nm (mm_cp v_shelves5_items v_shelves2_items x2 x4 x5) (fun (l_507 : List Int64) =>
    some (x5, v_shelves0_items, v_shelves1_items, l_507, v_shelves3_items, v_shelves4_items, v_shelves5_items)))))))))
    else (some ((-12 : Int32), v_shelves0_items, v_shelves1_items, v_shelves2_items, v_shelves3_items, v_shelves4_items, v_shelves5_items)))
    else (some ((-12 : Int32), v_shelves0_items, v_shelves1_items, v_shelves2_items, v_shelves3_items, v_shelves4_items, v_shelves5_items)))
    else (some ((-12 : Int32), v_shelves0_items, v_shelves1_items, v_shelves2_items, v_shelves3_items, v_shelves4_items, v_shelves5_items)))))
    else (if x3 = (3 : Int32) then
    (if v_shelves5_holds = 0 then
    (some ((-11 : Int32), v_shelves0_items, v_shelves1_items, v_shelves2_items, v_shelves3_items, v_shelves4_items, v_shelves5_items))
    else (if v_shelves3_holds = 0 then
    (some ((-11 : Int32), v_shelves0_items, v_shelves1_items, v_shelves2_items, v_shelves3_items, v_shelves4_items, v_shelves5_items))
    else (if v_shelves5_holds = (2 : Int32) then
    (if v_shelves3_holds = (2 : Int32) then
    (if v_shelves5_sort = v_shelves3_sort then
    (if x5 < 0 then
    (some ((-13 : Int32), v_shelves0_items, v_shelves1_items, v_shelves2_items, v_shelves3_items, v_shelves4_items, v_shelves5_items))
    else (mm_bd1 (fX6_hasPart N x2 x5 v_shelves5_size) (fun (r_515 : Bool) =>
    if r_515 = false then
    (some ((-13 : Int32), v_shelves0_items, v_shelves1_items, v_shelves2_items, v_shelves3_items, v_shelves4_items, v_shelves5_items))
    else (mm_bd1 (fX6_hasPart N x4 x5 v_shelves3_size) (fun (r_518 : Bool) =>
    if r_518 = false then
    (some ((-13 : Int32), v_shelves0_items, v_shelves1_items, v_shelves2_items, v_shelves3_items, v_shelves4_items, v_shelves5_items))
    else (mm_ck (mm_cok x2 x4 x5 v_shelves5_items.length v_shelves3_items.length) (mm_nm (mm_cp v_shelves5_items v_shelves3_items x2 x4 x5) (fun (l_522 : List Int64) =>
    some (x5, v_shelves0_items, v_shelves1_items, v_shelves2_items, l_522, v_shelves4_items, v_shelves5_items)))))))))
    else (some ((-12 : Int32), v_shelves0_items, v_shelves1_items, v_shelves2_items, v_shelves3_items, v_shelves4_items, v_shelves5_items)))
    else (some ((-12 : Int32), v_shelves0_items, v_shelves1_items, v_shelves2_items, v_shelves3_items, v_shelves4_items, v_shelves5_items)))
    else (some ((-12 : Int32), v_shelves0_items, v_shelves1_items, v_shelves2_items, v_shelves3_items, v_shelves4_items, v_shelves5_items)))))
    else (if x3 = (4 : Int32) then
    (if v_shelves5_holds = 0 then
    (some ((-11 : Int32), v_shelves0_items, v_shelves1_items, v_shelves2_items, v_shelves3_items, v_shelves4_items, v_shelves5_items))
    else (if v_shelves4_holds = 0 then
    (some ((-11 : Int32), v_shelves0_items, v_shelves1_items, v_shelves2_items, v_shelves3_items, v_shelves4_items, v_shelves5_items))
    else (if v_shelves5_holds = (2 : Int32) then
    (if v_shelves4_holds = (2 : Int32) then
    (if v_shelves5_sort = v_shelves4_sort then
    (if x5 < 0 then
    (some ((-13 : Int32), v_shelves0_items, v_shelves1_items, v_shelves2_items, v_shelves3_items, v_shelves4_items, v_shelves5_items))
    else (mm_bd1 (fX6_hasPart N x2 x5 v_shelves5_size) (fun (r_530 : Bool) =>
    if r_530 = false then
    (some ((-13 : Int32), v_shelves0_items, v_shelves1_items, v_shelves2_items, v_shelves3_items, v_shelves4_items, v_shelves5_items))
    else (mm_bd1 (fX6_hasPart N x4 x5 v_shelves4_size) (fun (r_533 : Bool) =>
    if r_533 = false then
    (some ((-13 : Int32), v_shelves0_items, v_shelves1_items, v_shelves2_items, v_shelves3_items, v_shelves4_items, v_shelves5_items))
    else (mm_ck (mm_cok x2 x4 x5 v_shelves5_items.length v_shelves4_items.length) (mm_nm (mm_cp v_shelves5_items v_shelves4_items x2 x4 x5) (fun (l_537 : List Int64) =>
    some (x5, v_shelves0_items, v_shelves1_items, v_shelves2_items, v_shelves3_items, l_537, v_shelves5_items)))))))))
    else (some ((-12 : Int32), v_shelves0_items, v_shelves1_items, v_shelves2_items, v_shelves3_items, v_shelves4_items, v_shelves5_items)))
    else (some ((-12 : Int32), v_shelves0_items, v_shelves1_items, v_shelves2_items, v_shelves3_items, v_shelves4_items, v_shelves5_items)))
    else (some ((-12 : Int32), v_shelves0_items, v_shelves1_items, v_shelves2_items, v_shelves3_items, v_shelves4_items, v_shelves5_items)))))
    else (if x3 = (5 : Int32) then
    (if v_shelves5_holds = 0 then
    (some ((-11 : Int32), v_shelves0_items, v_shelves1_items, v_shelves2_items, v_shelves3_items, v_shelves4_items, v_shelves5_items))
    else (if v_shelves5_holds = 0 then
    (some ((-11 : Int32), v_shelves0_items, v_shelves1_items, v_shelves2_items, v_shelves3_items, v_shelves4_items, v_shelves5_items))
    else (if v_shelves5_holds = (2 : Int32) then
    (if v_shelves5_holds = (2 : Int32) then
    (if v_shelves5_sort = v_shelves5_sort then
    (if x5 < 0 then
    (some ((-13 : Int32), v_shelves0_items, v_shelves1_items, v_shelves2_items, v_shelves3_items, v_shelves4_items, v_shelves5_items))
    else (mm_bd1 (fX6_hasPart N x2 x5 v_shelves5_size) (fun (r_545 : Bool) =>
    if r_545 = false then
    (some ((-13 : Int32), v_shelves0_items, v_shelves1_items, v_shelves2_items, v_shelves3_items, v_shelves4_items, v_shelves5_items))
    else (mm_bd1 (fX6_hasPart N x4 x5 v_shelves5_size) (fun (r_548 : Bool) =>
    if r_548 = false then
    (some ((-13 : Int32), v_shelves0_items, v_shelves1_items, v_shelves2_items, v_shelves3_items, v_shelves4_items, v_shelves5_items))
    else (mm_ck (mm_cok x2 x4 x5 v_shelves5_items.length v_shelves5_items.length) (mm_nm (mm_cp v_shelves5_items v_shelves5_items x2 x4 x5) (fun (l_552 : List Int64) =>
    some (x5, v_shelves0_items, v_shelves1_items, v_shelves2_items, v_shelves3_items, v_shelves4_items, l_552)))))))))
    else (some ((-12 : Int32), v_shelves0_items, v_shelves1_items, v_shelves2_items, v_shelves3_items, v_shelves4_items, v_shelves5_items)))
    else (some ((-12 : Int32), v_shelves0_items, v_shelves1_items, v_shelves2_items, v_shelves3_items, v_shelves4_items, v_shelves5_items)))
    else (some ((-12 : Int32), v_shelves0_items, v_shelves1_items, v_shelves2_items, v_shelves3_items, v_shelves4_items, v_shelves5_items)))))
    else (none)))))))
    else (none))))))))))

set_option maxHeartbeats 4000000 in
set_option maxRecDepth 100000 in
theorem ctX8_shift {l : Launch} {D : va_G} {cI cL cS cH : ClassId} {a : Nat → Nat} {x1 : Int32} {x2 : Int32} {x3 : Int32} {x4 : Int32} {x5 : Int32} {v_hasImage : Bool} {v_now_rows : Int32} {v_now_cols : Int32} {v_now_high : Int32} {v_now_wide : Int32} {v_now_folds : Int32} {v_now_wrong : Int32} {v_now_more : Int32} {v_now_rowOf : List Int32} {v_now_colOf : List Int32} {v_now_below : List Int32} {v_now_face : List Int32} {v_now_worn : List Int32} {v_now_last : List Int32} {v_now_bend : List Int32} {v_now_tall : List Int32} {v_kept_rows : Int32} {v_kept_cols : Int32} {v_kept_high : Int32} {v_kept_wide : Int32} {v_kept_folds : Int32} {v_kept_wrong : Int32} {v_kept_more : Int32} {v_kept_rowOf : List Int32} {v_kept_colOf : List Int32} {v_kept_below : List Int32} {v_kept_face : List Int32} {v_kept_worn : List Int32} {v_kept_last : List Int32} {v_kept_bend : List Int32} {v_kept_tall : List Int32} {v_wearing_size : Int32} {v_wearing_stepCount : Int32} {v_wearing_draftCount : Int32} {v_wearing_place : Int32} {v_wearing_fault : Int32} {v_wearing_stacked : Int32} {v_wearing_tape : List Int32} {v_wearing_steps : List Int32} {v_wearing_draft : List Int32} {v_wearing_stack : List Int32} {v_planned_size : Int32} {v_planned_trial_rows : Int32} {v_planned_trial_cols : Int32} {v_planned_trial_high : Int32} {v_planned_trial_wide : Int32} {v_planned_trial_folds : Int32} {v_planned_trial_wrong : Int32} {v_planned_trial_more : Int32} {v_planned_trial_rowOf : List Int32} {v_planned_trial_colOf : List Int32} {v_planned_trial_below : List Int32} {v_planned_trial_face : List Int32} {v_planned_trial_worn : List Int32} {v_planned_trial_last : List Int32} {v_planned_trial_bend : List Int32} {v_planned_trial_tall : List Int32} {v_planned_lines : List Int32} {v_planned_ways : List Int32} {v_search_found : Bool} {v_search_wrong : Int32} {v_search_more : Int32} {v_search_folds : Int32} {v_search_wanted : Int32} {v_search_levels0_rows : Int32} {v_search_levels0_cols : Int32} {v_search_levels0_high : Int32} {v_search_levels0_wide : Int32} {v_search_levels0_folds : Int32} {v_search_levels0_wrong : Int32} {v_search_levels0_more : Int32} {v_search_levels0_rowOf : List Int32} {v_search_levels0_colOf : List Int32} {v_search_levels0_below : List Int32} {v_search_levels0_face : List Int32} {v_search_levels0_worn : List Int32} {v_search_levels0_last : List Int32} {v_search_levels0_bend : List Int32} {v_search_levels0_tall : List Int32} {v_search_levels1_rows : Int32} {v_search_levels1_cols : Int32} {v_search_levels1_high : Int32} {v_search_levels1_wide : Int32} {v_search_levels1_folds : Int32} {v_search_levels1_wrong : Int32} {v_search_levels1_more : Int32} {v_search_levels1_rowOf : List Int32} {v_search_levels1_colOf : List Int32} {v_search_levels1_below : List Int32} {v_search_levels1_face : List Int32} {v_search_levels1_worn : List Int32} {v_search_levels1_last : List Int32} {v_search_levels1_bend : List Int32} {v_search_levels1_tall : List Int32} {v_search_levels2_rows : Int32} {v_search_levels2_cols : Int32} {v_search_levels2_high : Int32} {v_search_levels2_wide : Int32} {v_search_levels2_folds : Int32} {v_search_levels2_wrong : Int32} {v_search_levels2_more : Int32} {v_search_levels2_rowOf : List Int32} {v_search_levels2_colOf : List Int32} {v_search_levels2_below : List Int32} {v_search_levels2_face : List Int32} {v_search_levels2_worn : List Int32} {v_search_levels2_last : List Int32} {v_search_levels2_bend : List Int32} {v_search_levels2_tall : List Int32} {v_search_levels3_rows : Int32} {v_search_levels3_cols : Int32} {v_search_levels3_high : Int32} {v_search_levels3_wide : Int32} {v_search_levels3_folds : Int32} {v_search_levels3_wrong : Int32} {v_search_levels3_more : Int32} {v_search_levels3_rowOf : List Int32} {v_search_levels3_colOf : List Int32} {v_search_levels3_below : List Int32} {v_search_levels3_face : List Int32} {v_search_levels3_worn : List Int32} {v_search_levels3_last : List Int32} {v_search_levels3_bend : List Int32} {v_search_levels3_tall : List Int32} {v_search_path : List Int32} {v_search_best : List Int32} {v_strip_list : List Int32} {v_strip_found : List Int32} {v_strip_at : List Int32} {v_changes_value : Int32} {v_changes_done : Int32} {v_changes_size : Int32} {v_changes_before : List Int32} {v_changes_after : List Int32} {v_foldings_size : Int32} {v_foldings_ran : Int32} {v_foldings_number : Int32} {v_foldings_kinds : List Int32} {v_foldings_trace : List Int32} {v_shelves0_holds : Int32} {v_shelves0_body : Int32} {v_shelves0_sort : Int32} {v_shelves0_size : Int32} {v_shelves0_items : List Int64} {v_shelves1_holds : Int32} {v_shelves1_body : Int32} {v_shelves1_sort : Int32} {v_shelves1_size : Int32} {v_shelves1_items : List Int64} {v_shelves2_holds : Int32} {v_shelves2_body : Int32} {v_shelves2_sort : Int32} {v_shelves2_size : Int32} {v_shelves2_items : List Int64} {v_shelves3_holds : Int32} {v_shelves3_body : Int32} {v_shelves3_sort : Int32} {v_shelves3_size : Int32} {v_shelves3_items : List Int64} {v_shelves4_holds : Int32} {v_shelves4_body : Int32} {v_shelves4_sort : Int32} {v_shelves4_size : Int32} {v_shelves4_items : List Int64} {v_shelves5_holds : Int32} {v_shelves5_body : Int32} {v_shelves5_sort : Int32} {v_shelves5_size : Int32} {v_shelves5_items : List Int64} {r : Int32} {w_shelves0_items : List Int64} {w_shelves1_items : List Int64} {w_shelves2_items : List Int64} {w_shelves3_items : List Int64} {w_shelves4_items : List Int64} {w_shelves5_items : List Int64} {N d : Nat} (hd : 2 ≤ d) (hf : fX8_shift N x1 x2 x3 x4 x5 v_shelves0_holds v_shelves0_sort v_shelves0_size v_shelves0_items v_shelves1_holds v_shelves1_sort v_shelves1_size v_shelves1_items v_shelves2_holds v_shelves2_sort v_shelves2_size v_shelves2_items v_shelves3_holds v_shelves3_sort v_shelves3_size v_shelves3_items v_shelves4_holds v_shelves4_sort v_shelves4_size v_shelves4_items v_shelves5_holds v_shelves5_sort v_shelves5_size v_shelves5_items = some (r, w_shelves0_items, w_shelves1_items, w_shelves2_items, w_shelves3_items, w_shelves4_items, w_shelves5_items)) : mm_Ct l yX8_shift cX8_shift 8 (some .int) d D (mm_T cI cL cS cH) [.ref (a 0), .int x1, .int x2, .int x3, .int x4, .int x5] (wd_X8 cI cL cS cH a v_hasImage v_now_rows v_now_cols v_now_high v_now_wide v_now_folds v_now_wrong v_now_more v_now_rowOf v_now_colOf v_now_below v_now_face v_now_worn v_now_last v_now_bend v_now_tall v_kept_rows v_kept_cols v_kept_high v_kept_wide v_kept_folds v_kept_wrong v_kept_more v_kept_rowOf v_kept_colOf v_kept_below v_kept_face v_kept_worn v_kept_last v_kept_bend v_kept_tall v_wearing_size v_wearing_stepCount v_wearing_draftCount v_wearing_place v_wearing_fault v_wearing_stacked v_wearing_tape v_wearing_steps v_wearing_draft v_wearing_stack v_planned_size v_planned_trial_rows v_planned_trial_cols v_planned_trial_high v_planned_trial_wide v_planned_trial_folds v_planned_trial_wrong v_planned_trial_more v_planned_trial_rowOf v_planned_trial_colOf v_planned_trial_below v_planned_trial_face v_planned_trial_worn v_planned_trial_last v_planned_trial_bend v_planned_trial_tall v_planned_lines v_planned_ways v_search_found v_search_wrong v_search_more v_search_folds v_search_wanted v_search_levels0_rows v_search_levels0_cols v_search_levels0_high v_search_levels0_wide v_search_levels0_folds v_search_levels0_wrong v_search_levels0_more v_search_levels0_rowOf v_search_levels0_colOf v_search_levels0_below v_search_levels0_face v_search_levels0_worn v_search_levels0_last v_search_levels0_bend v_search_levels0_tall v_search_levels1_rows v_search_levels1_cols v_search_levels1_high v_search_levels1_wide v_search_levels1_folds v_search_levels1_wrong v_search_levels1_more v_search_levels1_rowOf v_search_levels1_colOf v_search_levels1_below v_search_levels1_face v_search_levels1_worn v_search_levels1_last v_search_levels1_bend v_search_levels1_tall v_search_levels2_rows v_search_levels2_cols v_search_levels2_high v_search_levels2_wide v_search_levels2_folds v_search_levels2_wrong v_search_levels2_more v_search_levels2_rowOf v_search_levels2_colOf v_search_levels2_below v_search_levels2_face v_search_levels2_worn v_search_levels2_last v_search_levels2_bend v_search_levels2_tall v_search_levels3_rows v_search_levels3_cols v_search_levels3_high v_search_levels3_wide v_search_levels3_folds v_search_levels3_wrong v_search_levels3_more v_search_levels3_rowOf v_search_levels3_colOf v_search_levels3_below v_search_levels3_face v_search_levels3_worn v_search_levels3_last v_search_levels3_bend v_search_levels3_tall v_search_path v_search_best v_strip_list v_strip_found v_strip_at v_changes_value v_changes_done v_changes_size v_changes_before v_changes_after v_foldings_size v_foldings_ran v_foldings_number v_foldings_kinds v_foldings_trace v_shelves0_holds v_shelves0_body v_shelves0_sort v_shelves0_size v_shelves0_items v_shelves1_holds v_shelves1_body v_shelves1_sort v_shelves1_size v_shelves1_items v_shelves2_holds v_shelves2_body v_shelves2_sort v_shelves2_size v_shelves2_items v_shelves3_holds v_shelves3_body v_shelves3_sort v_shelves3_size v_shelves3_items v_shelves4_holds v_shelves4_body v_shelves4_sort v_shelves4_size v_shelves4_items v_shelves5_holds v_shelves5_body v_shelves5_sort v_shelves5_size v_shelves5_items) (wd_X8 cI cL cS cH a v_hasImage v_now_rows v_now_cols v_now_high v_now_wide v_now_folds v_now_wrong v_now_more v_now_rowOf v_now_colOf v_now_below v_now_face v_now_worn v_now_last v_now_bend v_now_tall v_kept_rows v_kept_cols v_kept_high v_kept_wide v_kept_folds v_kept_wrong v_kept_more v_kept_rowOf v_kept_colOf v_kept_below v_kept_face v_kept_worn v_kept_last v_kept_bend v_kept_tall v_wearing_size v_wearing_stepCount v_wearing_draftCount v_wearing_place v_wearing_fault v_wearing_stacked v_wearing_tape v_wearing_steps v_wearing_draft v_wearing_stack v_planned_size v_planned_trial_rows v_planned_trial_cols v_planned_trial_high v_planned_trial_wide v_planned_trial_folds v_planned_trial_wrong v_planned_trial_more v_planned_trial_rowOf v_planned_trial_colOf v_planned_trial_below v_planned_trial_face v_planned_trial_worn v_planned_trial_last v_planned_trial_bend v_planned_trial_tall v_planned_lines v_planned_ways v_search_found v_search_wrong v_search_more v_search_folds v_search_wanted v_search_levels0_rows v_search_levels0_cols v_search_levels0_high v_search_levels0_wide v_search_levels0_folds v_search_levels0_wrong v_search_levels0_more v_search_levels0_rowOf v_search_levels0_colOf v_search_levels0_below v_search_levels0_face v_search_levels0_worn v_search_levels0_last v_search_levels0_bend v_search_levels0_tall v_search_levels1_rows v_search_levels1_cols v_search_levels1_high v_search_levels1_wide v_search_levels1_folds v_search_levels1_wrong v_search_levels1_more v_search_levels1_rowOf v_search_levels1_colOf v_search_levels1_below v_search_levels1_face v_search_levels1_worn v_search_levels1_last v_search_levels1_bend v_search_levels1_tall v_search_levels2_rows v_search_levels2_cols v_search_levels2_high v_search_levels2_wide v_search_levels2_folds v_search_levels2_wrong v_search_levels2_more v_search_levels2_rowOf v_search_levels2_colOf v_search_levels2_below v_search_levels2_face v_search_levels2_worn v_search_levels2_last v_search_levels2_bend v_search_levels2_tall v_search_levels3_rows v_search_levels3_cols v_search_levels3_high v_search_levels3_wide v_search_levels3_folds v_search_levels3_wrong v_search_levels3_more v_search_levels3_rowOf v_search_levels3_colOf v_search_levels3_below v_search_levels3_face v_search_levels3_worn v_search_levels3_last v_search_levels3_bend v_search_levels3_tall v_search_path v_search_best v_strip_list v_strip_found v_strip_at v_changes_value v_changes_done v_changes_size v_changes_before v_changes_after v_foldings_size v_foldings_ran v_foldings_number v_foldings_kinds v_foldings_trace v_shelves0_holds v_shelves0_body v_shelves0_sort v_shelves0_size w_shelves0_items v_shelves1_holds v_shelves1_body v_shelves1_sort v_shelves1_size w_shelves1_items v_shelves2_holds v_shelves2_body v_shelves2_sort v_shelves2_size w_shelves2_items v_shelves3_holds v_shelves3_body v_shelves3_sort v_shelves3_size w_shelves3_items v_shelves4_holds v_shelves4_body v_shelves4_sort v_shelves4_size w_shelves4_items v_shelves5_holds v_shelves5_body v_shelves5_sort v_shelves5_size w_shelves5_items) (some (.int r)) := by
  refine mm_of (by decide) (Nat.le_of_ble_eq_true rfl) ?_
  intro p e s m args below meth c A H locs ls C0 hP hD hA hS hl
  have C0 : mm_Cx p s m args meth c RX8 cX8_shift 8 (some .int) D (mm_T cI cL cS cH) A := C0
  obtain ⟨hx, hb, hml, hown, hts, hr, hlocks, hK, hSt⟩ := id C0
  have hl : lv_has ls 8 [(0, .ref (a 0)), (1, .int x1), (2, .int x2), (3, .int x3), (4, .int x4), (5, .int x5)] := hl
  unfold fX8_shift at hf
  refine lv_iload_n hx hb dX8_shift_0 rfl (lv_at hl 1 rfl) ?_
  obtain ⟨r_1, hc_2, hf⟩ := mm_bd1s hf
  refine mm_callS0 (rest := []) C0 lk_X8_165 (ctX8_isShelf (d := d - 1) (by omega) hc_2) (by omega) rfl hl.1 rfl (mm_cat rfl) dX8_shift_1 hP hD hA hS (fun H locs hP hS => ?_)
  refine W.eq (g2 := F0 m 4 ls [.int (mm_b r_1)]) rfl ?_
  refine lv_if_eq (tgt := 14) hx hb dX8_shift_4 (by decide) (fun c_3 => ?_) (fun c_3 => ?_)
  · have hf := mm_ip hf (mm_b0 c_3)
    refine lv_iconst (v := -1) hx hb dX8_shift_14 (by decide) ?_
    apply mm_sub7 hf
    exact mm_iret C0 hP hD hS dX8_shift_15
  · have hf := mm_in hf (mm_b1 c_3)
    refine lv_iload_n hx hb dX8_shift_7 rfl (lv_at hl 3 rfl) ?_
    obtain ⟨r_4, hc_5, hf⟩ := mm_bd1s hf
    refine mm_callS0 (rest := []) C0 lk_X8_165 (ctX8_isShelf (d := d - 1) (by omega) hc_5) (by omega) rfl hl.1 rfl (mm_cat rfl) dX8_shift_8 hP hD hA hS (fun H locs hP hS => ?_)
    refine W.eq (g2 := F0 m 11 ls [.int (mm_b r_4)]) rfl ?_
    refine lv_if_ne (tgt := 16) hx hb dX8_shift_11 (by decide) (fun c_6 => ?_) (fun c_6 => ?_)
    · have hf := mm_in hf (mm_b1 c_6)
      refine lv_aload_n hx hb dX8_shift_16 rfl (lv_at hl 0 rfl) ?_
      refine mm_get C0 hP iw_X8 0 rfl rfl 8 (by decide) fl_X8_63 rfl dX8_shift_17 ?_
      refine lv_iload_n hx hb dX8_shift_20 rfl (lv_at hl 1 rfl) ?_
      by_cases c_7 : x1 = (0 : Int32)
      · have hf := mm_ip hf c_7
        refine mm_aald 3 rfl C0 hP 86 rfl (b := a 87) (by rw [c_7]; rfl) (by rw [c_7]; rfl) dX8_shift_21 ?_
        refine lv_astore (lv' := [(6, .ref (a 87)), (0, .ref (a 0)), (1, .int x1), (2, .int x2), (3, .int x3), (4, .int x4), (5, .int x5)]) hx hb dX8_shift_22 hl (by decide) rfl (fun ls hl => ?_)
        refine lv_aload_n hx hb dX8_shift_24 rfl (lv_at hl 1 rfl) ?_
        refine mm_get C0 hP iw_X8 0 rfl rfl 8 (by decide) fl_X8_63 rfl dX8_shift_25 ?_
        refine lv_iload_n hx hb dX8_shift_28 rfl (lv_at hl 4 rfl) ?_
        by_cases c_8 : x3 = (0 : Int32)
        · have hf := mm_ip hf c_8
          refine mm_aald 3 rfl C0 hP 86 rfl (b := a 87) (by rw [c_8]; rfl) (by rw [c_8]; rfl) dX8_shift_29 ?_
          refine lv_astore (lv' := [(7, .ref (a 87)), (6, .ref (a 87)), (0, .ref (a 0)), (1, .int x1), (2, .int x2), (3, .int x3), (4, .int x4), (5, .int x5)]) hx hb dX8_shift_30 hl (by decide) rfl (fun ls hl => ?_)
          refine lv_aload hx hb dX8_shift_32 (lv_at hl 1 rfl) ?_
          refine mm_get C0 hP iw_X6 87 rfl rfl 0 (by decide) fl_X8_168 rfl dX8_shift_34 ?_
          refine lv_if_eq (tgt := 48) hx hb dX8_shift_37 (by decide) (fun c_9 => ?_) (fun c_9 => ?_)
          · have hf := mm_ip hf c_9
            refine lv_bipush (v := -11) hx hb dX8_shift_48 (by decide) ?_
            apply mm_sub7 hf
            exact mm_iret C0 hP hD hS dX8_shift_50
          · have hf := mm_in hf c_9
            refine lv_aload hx hb dX8_shift_40 (lv_at hl 0 rfl) ?_
            refine mm_get C0 hP iw_X6 87 rfl rfl 0 (by decide) fl_X8_168 rfl dX8_shift_42 ?_
            refine lv_if_ne (tgt := 51) hx hb dX8_shift_45 (by decide) (fun c_10 => ?_) (fun c_10 => ?_)
            · have hf := mm_in hf c_10
              refine lv_aload hx hb dX8_shift_51 (lv_at hl 1 rfl) ?_
              refine mm_get C0 hP iw_X6 87 rfl rfl 0 (by decide) fl_X8_168 rfl dX8_shift_53 ?_
              refine lv_iconst (v := 2) hx hb dX8_shift_56 (by decide) ?_
              refine lv_icmp_ne (tgt := 82) hx hb dX8_shift_57 (by decide) (fun c_11 => ?_) (fun c_11 => ?_)
              · have hf := mm_in hf c_11
                refine lv_bipush (v := -12) hx hb dX8_shift_82 (by decide) ?_
                apply mm_sub7 hf
                exact mm_iret C0 hP hD hS dX8_shift_84
              · have hf := mm_ip hf c_11
                refine lv_aload hx hb dX8_shift_60 (lv_at hl 0 rfl) ?_
                refine mm_get C0 hP iw_X6 87 rfl rfl 0 (by decide) fl_X8_168 rfl dX8_shift_62 ?_
                refine lv_iconst (v := 2) hx hb dX8_shift_65 (by decide) ?_
                refine lv_icmp_ne (tgt := 82) hx hb dX8_shift_66 (by decide) (fun c_12 => ?_) (fun c_12 => ?_)
                · have hf := mm_in hf c_12
                  refine lv_bipush (v := -12) hx hb dX8_shift_82 (by decide) ?_
                  apply mm_sub7 hf
                  exact mm_iret C0 hP hD hS dX8_shift_84
                · have hf := mm_ip hf c_12
                  refine lv_aload hx hb dX8_shift_69 (lv_at hl 1 rfl) ?_
                  refine mm_get C0 hP iw_X6 87 rfl rfl 2 (by decide) fl_X8_171 rfl dX8_shift_71 ?_
                  refine lv_aload hx hb dX8_shift_74 (lv_at hl 0 rfl) ?_
                  refine mm_get C0 hP iw_X6 87 rfl rfl 2 (by decide) fl_X8_171 rfl dX8_shift_76 ?_
                  refine lv_icmp_eq (tgt := 85) hx hb dX8_shift_79 (by decide) (fun c_13 => ?_) (fun c_13 => ?_)
                  · have hf := mm_ip hf c_13
                    refine lv_iload hx hb dX8_shift_85 (lv_at hl 7 rfl) ?_
                    refine lv_if_lt (tgt := 113) hx hb dX8_shift_87 (by decide) (fun c_14 => ?_) (fun c_14 => ?_)
                    · have hf := mm_ip hf c_14
                      refine lv_bipush (v := -13) hx hb dX8_shift_113 (by decide) ?_
                      apply mm_sub7 hf
                      exact mm_iret C0 hP hD hS dX8_shift_115
                    · have hf := mm_in hf c_14
                      refine lv_aload hx hb dX8_shift_90 (lv_at hl 1 rfl) ?_
                      refine lv_iload_n hx hb dX8_shift_92 rfl (lv_at hl 4 rfl) ?_
                      refine lv_iload hx hb dX8_shift_93 (lv_at hl 7 rfl) ?_
                      obtain ⟨r_15, hc_16, hf⟩ := mm_bd1s hf
                      refine mm_callW (q0 := 87) (ci := 6) (w2 := (wd_X8 cI cL cS cH a v_hasImage v_now_rows v_now_cols v_now_high v_now_wide v_now_folds v_now_wrong v_now_more v_now_rowOf v_now_colOf v_now_below v_now_face v_now_worn v_now_last v_now_bend v_now_tall v_kept_rows v_kept_cols v_kept_high v_kept_wide v_kept_folds v_kept_wrong v_kept_more v_kept_rowOf v_kept_colOf v_kept_below v_kept_face v_kept_worn v_kept_last v_kept_bend v_kept_tall v_wearing_size v_wearing_stepCount v_wearing_draftCount v_wearing_place v_wearing_fault v_wearing_stacked v_wearing_tape v_wearing_steps v_wearing_draft v_wearing_stack v_planned_size v_planned_trial_rows v_planned_trial_cols v_planned_trial_high v_planned_trial_wide v_planned_trial_folds v_planned_trial_wrong v_planned_trial_more v_planned_trial_rowOf v_planned_trial_colOf v_planned_trial_below v_planned_trial_face v_planned_trial_worn v_planned_trial_last v_planned_trial_bend v_planned_trial_tall v_planned_lines v_planned_ways v_search_found v_search_wrong v_search_more v_search_folds v_search_wanted v_search_levels0_rows v_search_levels0_cols v_search_levels0_high v_search_levels0_wide v_search_levels0_folds v_search_levels0_wrong v_search_levels0_more v_search_levels0_rowOf v_search_levels0_colOf v_search_levels0_below v_search_levels0_face v_search_levels0_worn v_search_levels0_last v_search_levels0_bend v_search_levels0_tall v_search_levels1_rows v_search_levels1_cols v_search_levels1_high v_search_levels1_wide v_search_levels1_folds v_search_levels1_wrong v_search_levels1_more v_search_levels1_rowOf v_search_levels1_colOf v_search_levels1_below v_search_levels1_face v_search_levels1_worn v_search_levels1_last v_search_levels1_bend v_search_levels1_tall v_search_levels2_rows v_search_levels2_cols v_search_levels2_high v_search_levels2_wide v_search_levels2_folds v_search_levels2_wrong v_search_levels2_more v_search_levels2_rowOf v_search_levels2_colOf v_search_levels2_below v_search_levels2_face v_search_levels2_worn v_search_levels2_last v_search_levels2_bend v_search_levels2_tall v_search_levels3_rows v_search_levels3_cols v_search_levels3_high v_search_levels3_wide v_search_levels3_folds v_search_levels3_wrong v_search_levels3_more v_search_levels3_rowOf v_search_levels3_colOf v_search_levels3_below v_search_levels3_face v_search_levels3_worn v_search_levels3_last v_search_levels3_bend v_search_levels3_tall v_search_path v_search_best v_strip_list v_strip_found v_strip_at v_changes_value v_changes_done v_changes_size v_changes_before v_changes_after v_foldings_size v_foldings_ran v_foldings_number v_foldings_kinds v_foldings_trace v_shelves0_holds v_shelves0_body v_shelves0_sort v_shelves0_size v_shelves0_items v_shelves1_holds v_shelves1_body v_shelves1_sort v_shelves1_size v_shelves1_items v_shelves2_holds v_shelves2_body v_shelves2_sort v_shelves2_size v_shelves2_items v_shelves3_holds v_shelves3_body v_shelves3_sort v_shelves3_size v_shelves3_items v_shelves4_holds v_shelves4_body v_shelves4_sort v_shelves4_size v_shelves4_items v_shelves5_holds v_shelves5_body v_shelves5_sort v_shelves5_size v_shelves5_items)) (rest := []) C0 lk_X8_303 (ctX6_hasPart (a := (fun k => a (k + 87))) (d := d - 1) (by omega) hc_16) (by omega) rfl hl.1 rfl (mm_cat rfl) dX8_shift_95 hP hD hA hS rfl rfl [false, false, false, false, false, false, false, false, false, false, false, false, false, false, false, false, false, false, false, false, false, false, false, false, false, false, false, false, false, false, false, false, false, false, false, false, false, false, false, false, false, false, false, false, false, false, false, false, false, false, false, false, false, false, false, false, false, false, false, false, false, false, false, false, false, false, false, false, false, false, false, false, false, false, false, false, false, false, false, false, false, false, false, false, false, false, false, true, true, false, false, false, false, false, false, false, false, false, false] rfl rfl rfl rfl (fun H locs hP hD hS => ?_)
                      refine W.eq (g2 := F0 m 98 ls [.int (mm_b r_15)]) rfl ?_
                      refine lv_if_eq (tgt := 113) hx hb dX8_shift_98 (by decide) (fun c_17 => ?_) (fun c_17 => ?_)
                      · have hf := mm_ip hf (mm_b0 c_17)
                        refine lv_bipush (v := -13) hx hb dX8_shift_113 (by decide) ?_
                        apply mm_sub7 hf
                        exact mm_iret C0 hP hD hS dX8_shift_115
                      · have hf := mm_in hf (mm_b1 c_17)
                        refine lv_aload hx hb dX8_shift_101 (lv_at hl 0 rfl) ?_
                        refine lv_iload hx hb dX8_shift_103 (lv_at hl 6 rfl) ?_
                        refine lv_iload hx hb dX8_shift_105 (lv_at hl 7 rfl) ?_
                        obtain ⟨r_18, hc_19, hf⟩ := mm_bd1s hf
                        refine mm_callW (q0 := 87) (ci := 6) (w2 := (wd_X8 cI cL cS cH a v_hasImage v_now_rows v_now_cols v_now_high v_now_wide v_now_folds v_now_wrong v_now_more v_now_rowOf v_now_colOf v_now_below v_now_face v_now_worn v_now_last v_now_bend v_now_tall v_kept_rows v_kept_cols v_kept_high v_kept_wide v_kept_folds v_kept_wrong v_kept_more v_kept_rowOf v_kept_colOf v_kept_below v_kept_face v_kept_worn v_kept_last v_kept_bend v_kept_tall v_wearing_size v_wearing_stepCount v_wearing_draftCount v_wearing_place v_wearing_fault v_wearing_stacked v_wearing_tape v_wearing_steps v_wearing_draft v_wearing_stack v_planned_size v_planned_trial_rows v_planned_trial_cols v_planned_trial_high v_planned_trial_wide v_planned_trial_folds v_planned_trial_wrong v_planned_trial_more v_planned_trial_rowOf v_planned_trial_colOf v_planned_trial_below v_planned_trial_face v_planned_trial_worn v_planned_trial_last v_planned_trial_bend v_planned_trial_tall v_planned_lines v_planned_ways v_search_found v_search_wrong v_search_more v_search_folds v_search_wanted v_search_levels0_rows v_search_levels0_cols v_search_levels0_high v_search_levels0_wide v_search_levels0_folds v_search_levels0_wrong v_search_levels0_more v_search_levels0_rowOf v_search_levels0_colOf v_search_levels0_below v_search_levels0_face v_search_levels0_worn v_search_levels0_last v_search_levels0_bend v_search_levels0_tall v_search_levels1_rows v_search_levels1_cols v_search_levels1_high v_search_levels1_wide v_search_levels1_folds v_search_levels1_wrong v_search_levels1_more v_search_levels1_rowOf v_search_levels1_colOf v_search_levels1_below v_search_levels1_face v_search_levels1_worn v_search_levels1_last v_search_levels1_bend v_search_levels1_tall v_search_levels2_rows v_search_levels2_cols v_search_levels2_high v_search_levels2_wide v_search_levels2_folds v_search_levels2_wrong v_search_levels2_more v_search_levels2_rowOf v_search_levels2_colOf v_search_levels2_below v_search_levels2_face v_search_levels2_worn v_search_levels2_last v_search_levels2_bend v_search_levels2_tall v_search_levels3_rows v_search_levels3_cols v_search_levels3_high v_search_levels3_wide v_search_levels3_folds v_search_levels3_wrong v_search_levels3_more v_search_levels3_rowOf v_search_levels3_colOf v_search_levels3_below v_search_levels3_face v_search_levels3_worn v_search_levels3_last v_search_levels3_bend v_search_levels3_tall v_search_path v_search_best v_strip_list v_strip_found v_strip_at v_changes_value v_changes_done v_changes_size v_changes_before v_changes_after v_foldings_size v_foldings_ran v_foldings_number v_foldings_kinds v_foldings_trace v_shelves0_holds v_shelves0_body v_shelves0_sort v_shelves0_size v_shelves0_items v_shelves1_holds v_shelves1_body v_shelves1_sort v_shelves1_size v_shelves1_items v_shelves2_holds v_shelves2_body v_shelves2_sort v_shelves2_size v_shelves2_items v_shelves3_holds v_shelves3_body v_shelves3_sort v_shelves3_size v_shelves3_items v_shelves4_holds v_shelves4_body v_shelves4_sort v_shelves4_size v_shelves4_items v_shelves5_holds v_shelves5_body v_shelves5_sort v_shelves5_size v_shelves5_items)) (rest := []) C0 lk_X8_303 (ctX6_hasPart (a := (fun k => a (k + 87))) (d := d - 1) (by omega) hc_19) (by omega) rfl hl.1 rfl (mm_cat rfl) dX8_shift_107 hP hD hA hS rfl rfl [false, false, false, false, false, false, false, false, false, false, false, false, false, false, false, false, false, false, false, false, false, false, false, false, false, false, false, false, false, false, false, false, false, false, false, false, false, false, false, false, false, false, false, false, false, false, false, false, false, false, false, false, false, false, false, false, false, false, false, false, false, false, false, false, false, false, false, false, false, false, false, false, false, false, false, false, false, false, false, false, false, false, false, false, false, false, false, true, true, false, false, false, false, false, false, false, false, false, false] rfl rfl rfl rfl (fun H locs hP hD hS => ?_)
                        refine W.eq (g2 := F0 m 110 ls [.int (mm_b r_18)]) rfl ?_
                        refine lv_if_ne (tgt := 116) hx hb dX8_shift_110 (by decide) (fun c_20 => ?_) (fun c_20 => ?_)
                        · have hf := mm_in hf (mm_b1 c_20)
                          refine lv_aload hx hb dX8_shift_116 (lv_at hl 1 rfl) ?_
                          refine mm_get C0 hP iw_X6 87 rfl rfl 4 (by decide) fl_X8_299 rfl dX8_shift_118 ?_
                          refine lv_iload_n hx hb dX8_shift_121 rfl (lv_at hl 4 rfl) ?_
                          refine lv_aload hx hb dX8_shift_122 (lv_at hl 0 rfl) ?_
                          refine mm_get C0 hP iw_X6 87 rfl rfl 4 (by decide) fl_X8_299 rfl dX8_shift_124 ?_
                          refine lv_iload hx hb dX8_shift_127 (lv_at hl 6 rfl) ?_
                          refine lv_iload hx hb dX8_shift_129 (lv_at hl 7 rfl) ?_
                          obtain ⟨h_21, hf⟩ := mm_cks hf
                          refine mm_copyl C0 la_X8_306 hP hD hS 88 88 rfl rfl h_21 hl.1 (by omega) (mm_cat rfl) dX8_shift_131 (w2 := (wd_X8 cI cL cS cH a v_hasImage v_now_rows v_now_cols v_now_high v_now_wide v_now_folds v_now_wrong v_now_more v_now_rowOf v_now_colOf v_now_below v_now_face v_now_worn v_now_last v_now_bend v_now_tall v_kept_rows v_kept_cols v_kept_high v_kept_wide v_kept_folds v_kept_wrong v_kept_more v_kept_rowOf v_kept_colOf v_kept_below v_kept_face v_kept_worn v_kept_last v_kept_bend v_kept_tall v_wearing_size v_wearing_stepCount v_wearing_draftCount v_wearing_place v_wearing_fault v_wearing_stacked v_wearing_tape v_wearing_steps v_wearing_draft v_wearing_stack v_planned_size v_planned_trial_rows v_planned_trial_cols v_planned_trial_high v_planned_trial_wide v_planned_trial_folds v_planned_trial_wrong v_planned_trial_more v_planned_trial_rowOf v_planned_trial_colOf v_planned_trial_below v_planned_trial_face v_planned_trial_worn v_planned_trial_last v_planned_trial_bend v_planned_trial_tall v_planned_lines v_planned_ways v_search_found v_search_wrong v_search_more v_search_folds v_search_wanted v_search_levels0_rows v_search_levels0_cols v_search_levels0_high v_search_levels0_wide v_search_levels0_folds v_search_levels0_wrong v_search_levels0_more v_search_levels0_rowOf v_search_levels0_colOf v_search_levels0_below v_search_levels0_face v_search_levels0_worn v_search_levels0_last v_search_levels0_bend v_search_levels0_tall v_search_levels1_rows v_search_levels1_cols v_search_levels1_high v_search_levels1_wide v_search_levels1_folds v_search_levels1_wrong v_search_levels1_more v_search_levels1_rowOf v_search_levels1_colOf v_search_levels1_below v_search_levels1_face v_search_levels1_worn v_search_levels1_last v_search_levels1_bend v_search_levels1_tall v_search_levels2_rows v_search_levels2_cols v_search_levels2_high v_search_levels2_wide v_search_levels2_folds v_search_levels2_wrong v_search_levels2_more v_search_levels2_rowOf v_search_levels2_colOf v_search_levels2_below v_search_levels2_face v_search_levels2_worn v_search_levels2_last v_search_levels2_bend v_search_levels2_tall v_search_levels3_rows v_search_levels3_cols v_search_levels3_high v_search_levels3_wide v_search_levels3_folds v_search_levels3_wrong v_search_levels3_more v_search_levels3_rowOf v_search_levels3_colOf v_search_levels3_below v_search_levels3_face v_search_levels3_worn v_search_levels3_last v_search_levels3_bend v_search_levels3_tall v_search_path v_search_best v_strip_list v_strip_found v_strip_at v_changes_value v_changes_done v_changes_size v_changes_before v_changes_after v_foldings_size v_foldings_ran v_foldings_number v_foldings_kinds v_foldings_trace v_shelves0_holds v_shelves0_body v_shelves0_sort v_shelves0_size (mm_cp v_shelves0_items v_shelves0_items x2 x4 x5) v_shelves1_holds v_shelves1_body v_shelves1_sort v_shelves1_size v_shelves1_items v_shelves2_holds v_shelves2_body v_shelves2_sort v_shelves2_size v_shelves2_items v_shelves3_holds v_shelves3_body v_shelves3_sort v_shelves3_size v_shelves3_items v_shelves4_holds v_shelves4_body v_shelves4_sort v_shelves4_size v_shelves4_items v_shelves5_holds v_shelves5_body v_shelves5_sort v_shelves5_size v_shelves5_items)) rfl (fun H locs hP hD hS => ?_)
                          generalize el_22 : (mm_cp v_shelves0_items v_shelves0_items x2 x4 x5) = l_22 at hP hD
                          have hf := mm_nms hf el_22.symm
                          refine lv_iload hx hb dX8_shift_134 (lv_at hl 7 rfl) ?_
                          apply mm_sub7 hf
                          exact mm_iret C0 hP hD hS dX8_shift_136
                        · have hf := mm_ip hf (mm_b0 c_20)
                          refine lv_bipush (v := -13) hx hb dX8_shift_113 (by decide) ?_
                          apply mm_sub7 hf
                          exact mm_iret C0 hP hD hS dX8_shift_115
                  · have hf := mm_in hf c_13
                    refine lv_bipush (v := -12) hx hb dX8_shift_82 (by decide) ?_
                    apply mm_sub7 hf
                    exact mm_iret C0 hP hD hS dX8_shift_84
            · have hf := mm_ip hf c_10
              refine lv_bipush (v := -11) hx hb dX8_shift_48 (by decide) ?_
              apply mm_sub7 hf
              exact mm_iret C0 hP hD hS dX8_shift_50
        · have hf := mm_in hf c_8
          by_cases c_23 : x3 = (1 : Int32)
          · have hf := mm_ip hf c_23
            refine mm_aald 3 rfl C0 hP 86 rfl (b := a 89) (by rw [c_23]; rfl) (by rw [c_23]; rfl) dX8_shift_29 ?_
            refine lv_astore (lv' := [(7, .ref (a 89)), (6, .ref (a 87)), (0, .ref (a 0)), (1, .int x1), (2, .int x2), (3, .int x3), (4, .int x4), (5, .int x5)]) hx hb dX8_shift_30 hl (by decide) rfl (fun ls hl => ?_)
            refine lv_aload hx hb dX8_shift_32 (lv_at hl 1 rfl) ?_
            refine mm_get C0 hP iw_X6 87 rfl rfl 0 (by decide) fl_X8_168 rfl dX8_shift_34 ?_
            refine lv_if_eq (tgt := 48) hx hb dX8_shift_37 (by decide) (fun c_24 => ?_) (fun c_24 => ?_)
            · have hf := mm_ip hf c_24
              refine lv_bipush (v := -11) hx hb dX8_shift_48 (by decide) ?_
              apply mm_sub7 hf
              exact mm_iret C0 hP hD hS dX8_shift_50
            · have hf := mm_in hf c_24
              refine lv_aload hx hb dX8_shift_40 (lv_at hl 0 rfl) ?_
              refine mm_get C0 hP iw_X6 89 rfl rfl 0 (by decide) fl_X8_168 rfl dX8_shift_42 ?_
              refine lv_if_ne (tgt := 51) hx hb dX8_shift_45 (by decide) (fun c_25 => ?_) (fun c_25 => ?_)
              · have hf := mm_in hf c_25
                refine lv_aload hx hb dX8_shift_51 (lv_at hl 1 rfl) ?_
                refine mm_get C0 hP iw_X6 87 rfl rfl 0 (by decide) fl_X8_168 rfl dX8_shift_53 ?_
                refine lv_iconst (v := 2) hx hb dX8_shift_56 (by decide) ?_
                refine lv_icmp_ne (tgt := 82) hx hb dX8_shift_57 (by decide) (fun c_26 => ?_) (fun c_26 => ?_)
                · have hf := mm_in hf c_26
                  refine lv_bipush (v := -12) hx hb dX8_shift_82 (by decide) ?_
                  apply mm_sub7 hf
                  exact mm_iret C0 hP hD hS dX8_shift_84
                · have hf := mm_ip hf c_26
                  refine lv_aload hx hb dX8_shift_60 (lv_at hl 0 rfl) ?_
                  refine mm_get C0 hP iw_X6 89 rfl rfl 0 (by decide) fl_X8_168 rfl dX8_shift_62 ?_
                  refine lv_iconst (v := 2) hx hb dX8_shift_65 (by decide) ?_
                  refine lv_icmp_ne (tgt := 82) hx hb dX8_shift_66 (by decide) (fun c_27 => ?_) (fun c_27 => ?_)
                  · have hf := mm_in hf c_27
                    refine lv_bipush (v := -12) hx hb dX8_shift_82 (by decide) ?_
                    apply mm_sub7 hf
                    exact mm_iret C0 hP hD hS dX8_shift_84
                  · have hf := mm_ip hf c_27
                    refine lv_aload hx hb dX8_shift_69 (lv_at hl 1 rfl) ?_
                    refine mm_get C0 hP iw_X6 87 rfl rfl 2 (by decide) fl_X8_171 rfl dX8_shift_71 ?_
                    refine lv_aload hx hb dX8_shift_74 (lv_at hl 0 rfl) ?_
                    refine mm_get C0 hP iw_X6 89 rfl rfl 2 (by decide) fl_X8_171 rfl dX8_shift_76 ?_
                    refine lv_icmp_eq (tgt := 85) hx hb dX8_shift_79 (by decide) (fun c_28 => ?_) (fun c_28 => ?_)
                    · have hf := mm_ip hf c_28
                      refine lv_iload hx hb dX8_shift_85 (lv_at hl 7 rfl) ?_
                      refine lv_if_lt (tgt := 113) hx hb dX8_shift_87 (by decide) (fun c_29 => ?_) (fun c_29 => ?_)
                      · have hf := mm_ip hf c_29
                        refine lv_bipush (v := -13) hx hb dX8_shift_113 (by decide) ?_
                        apply mm_sub7 hf
                        exact mm_iret C0 hP hD hS dX8_shift_115
                      · have hf := mm_in hf c_29
                        refine lv_aload hx hb dX8_shift_90 (lv_at hl 1 rfl) ?_
                        refine lv_iload_n hx hb dX8_shift_92 rfl (lv_at hl 4 rfl) ?_
                        refine lv_iload hx hb dX8_shift_93 (lv_at hl 7 rfl) ?_
                        obtain ⟨r_30, hc_31, hf⟩ := mm_bd1s hf
                        refine mm_callW (q0 := 87) (ci := 6) (w2 := (wd_X8 cI cL cS cH a v_hasImage v_now_rows v_now_cols v_now_high v_now_wide v_now_folds v_now_wrong v_now_more v_now_rowOf v_now_colOf v_now_below v_now_face v_now_worn v_now_last v_now_bend v_now_tall v_kept_rows v_kept_cols v_kept_high v_kept_wide v_kept_folds v_kept_wrong v_kept_more v_kept_rowOf v_kept_colOf v_kept_below v_kept_face v_kept_worn v_kept_last v_kept_bend v_kept_tall v_wearing_size v_wearing_stepCount v_wearing_draftCount v_wearing_place v_wearing_fault v_wearing_stacked v_wearing_tape v_wearing_steps v_wearing_draft v_wearing_stack v_planned_size v_planned_trial_rows v_planned_trial_cols v_planned_trial_high v_planned_trial_wide v_planned_trial_folds v_planned_trial_wrong v_planned_trial_more v_planned_trial_rowOf v_planned_trial_colOf v_planned_trial_below v_planned_trial_face v_planned_trial_worn v_planned_trial_last v_planned_trial_bend v_planned_trial_tall v_planned_lines v_planned_ways v_search_found v_search_wrong v_search_more v_search_folds v_search_wanted v_search_levels0_rows v_search_levels0_cols v_search_levels0_high v_search_levels0_wide v_search_levels0_folds v_search_levels0_wrong v_search_levels0_more v_search_levels0_rowOf v_search_levels0_colOf v_search_levels0_below v_search_levels0_face v_search_levels0_worn v_search_levels0_last v_search_levels0_bend v_search_levels0_tall v_search_levels1_rows v_search_levels1_cols v_search_levels1_high v_search_levels1_wide v_search_levels1_folds v_search_levels1_wrong v_search_levels1_more v_search_levels1_rowOf v_search_levels1_colOf v_search_levels1_below v_search_levels1_face v_search_levels1_worn v_search_levels1_last v_search_levels1_bend v_search_levels1_tall v_search_levels2_rows v_search_levels2_cols v_search_levels2_high v_search_levels2_wide v_search_levels2_folds v_search_levels2_wrong v_search_levels2_more v_search_levels2_rowOf v_search_levels2_colOf v_search_levels2_below v_search_levels2_face v_search_levels2_worn v_search_levels2_last v_search_levels2_bend v_search_levels2_tall v_search_levels3_rows v_search_levels3_cols v_search_levels3_high v_search_levels3_wide v_search_levels3_folds v_search_levels3_wrong v_search_levels3_more v_search_levels3_rowOf v_search_levels3_colOf v_search_levels3_below v_search_levels3_face v_search_levels3_worn v_search_levels3_last v_search_levels3_bend v_search_levels3_tall v_search_path v_search_best v_strip_list v_strip_found v_strip_at v_changes_value v_changes_done v_changes_size v_changes_before v_changes_after v_foldings_size v_foldings_ran v_foldings_number v_foldings_kinds v_foldings_trace v_shelves0_holds v_shelves0_body v_shelves0_sort v_shelves0_size v_shelves0_items v_shelves1_holds v_shelves1_body v_shelves1_sort v_shelves1_size v_shelves1_items v_shelves2_holds v_shelves2_body v_shelves2_sort v_shelves2_size v_shelves2_items v_shelves3_holds v_shelves3_body v_shelves3_sort v_shelves3_size v_shelves3_items v_shelves4_holds v_shelves4_body v_shelves4_sort v_shelves4_size v_shelves4_items v_shelves5_holds v_shelves5_body v_shelves5_sort v_shelves5_size v_shelves5_items)) (rest := []) C0 lk_X8_303 (ctX6_hasPart (a := (fun k => a (k + 87))) (d := d - 1) (by omega) hc_31) (by omega) rfl hl.1 rfl (mm_cat rfl) dX8_shift_95 hP hD hA hS rfl rfl [false, false, false, false, false, false, false, false, false, false, false, false, false, false, false, false, false, false, false, false, false, false, false, false, false, false, false, false, false, false, false, false, false, false, false, false, false, false, false, false, false, false, false, false, false, false, false, false, false, false, false, false, false, false, false, false, false, false, false, false, false, false, false, false, false, false, false, false, false, false, false, false, false, false, false, false, false, false, false, false, false, false, false, false, false, false, false, true, true, false, false, false, false, false, false, false, false, false, false] rfl rfl rfl rfl (fun H locs hP hD hS => ?_)
                        refine W.eq (g2 := F0 m 98 ls [.int (mm_b r_30)]) rfl ?_
                        refine lv_if_eq (tgt := 113) hx hb dX8_shift_98 (by decide) (fun c_32 => ?_) (fun c_32 => ?_)
                        · have hf := mm_ip hf (mm_b0 c_32)
                          refine lv_bipush (v := -13) hx hb dX8_shift_113 (by decide) ?_
                          apply mm_sub7 hf
                          exact mm_iret C0 hP hD hS dX8_shift_115
                        · have hf := mm_in hf (mm_b1 c_32)
                          refine lv_aload hx hb dX8_shift_101 (lv_at hl 0 rfl) ?_
                          refine lv_iload hx hb dX8_shift_103 (lv_at hl 6 rfl) ?_
                          refine lv_iload hx hb dX8_shift_105 (lv_at hl 7 rfl) ?_
                          obtain ⟨r_33, hc_34, hf⟩ := mm_bd1s hf
                          refine mm_callW (q0 := 89) (ci := 6) (w2 := (wd_X8 cI cL cS cH a v_hasImage v_now_rows v_now_cols v_now_high v_now_wide v_now_folds v_now_wrong v_now_more v_now_rowOf v_now_colOf v_now_below v_now_face v_now_worn v_now_last v_now_bend v_now_tall v_kept_rows v_kept_cols v_kept_high v_kept_wide v_kept_folds v_kept_wrong v_kept_more v_kept_rowOf v_kept_colOf v_kept_below v_kept_face v_kept_worn v_kept_last v_kept_bend v_kept_tall v_wearing_size v_wearing_stepCount v_wearing_draftCount v_wearing_place v_wearing_fault v_wearing_stacked v_wearing_tape v_wearing_steps v_wearing_draft v_wearing_stack v_planned_size v_planned_trial_rows v_planned_trial_cols v_planned_trial_high v_planned_trial_wide v_planned_trial_folds v_planned_trial_wrong v_planned_trial_more v_planned_trial_rowOf v_planned_trial_colOf v_planned_trial_below v_planned_trial_face v_planned_trial_worn v_planned_trial_last v_planned_trial_bend v_planned_trial_tall v_planned_lines v_planned_ways v_search_found v_search_wrong v_search_more v_search_folds v_search_wanted v_search_levels0_rows v_search_levels0_cols v_search_levels0_high v_search_levels0_wide v_search_levels0_folds v_search_levels0_wrong v_search_levels0_more v_search_levels0_rowOf v_search_levels0_colOf v_search_levels0_below v_search_levels0_face v_search_levels0_worn v_search_levels0_last v_search_levels0_bend v_search_levels0_tall v_search_levels1_rows v_search_levels1_cols v_search_levels1_high v_search_levels1_wide v_search_levels1_folds v_search_levels1_wrong v_search_levels1_more v_search_levels1_rowOf v_search_levels1_colOf v_search_levels1_below v_search_levels1_face v_search_levels1_worn v_search_levels1_last v_search_levels1_bend v_search_levels1_tall v_search_levels2_rows v_search_levels2_cols v_search_levels2_high v_search_levels2_wide v_search_levels2_folds v_search_levels2_wrong v_search_levels2_more v_search_levels2_rowOf v_search_levels2_colOf v_search_levels2_below v_search_levels2_face v_search_levels2_worn v_search_levels2_last v_search_levels2_bend v_search_levels2_tall v_search_levels3_rows v_search_levels3_cols v_search_levels3_high v_search_levels3_wide v_search_levels3_folds v_search_levels3_wrong v_search_levels3_more v_search_levels3_rowOf v_search_levels3_colOf v_search_levels3_below v_search_levels3_face v_search_levels3_worn v_search_levels3_last v_search_levels3_bend v_search_levels3_tall v_search_path v_search_best v_strip_list v_strip_found v_strip_at v_changes_value v_changes_done v_changes_size v_changes_before v_changes_after v_foldings_size v_foldings_ran v_foldings_number v_foldings_kinds v_foldings_trace v_shelves0_holds v_shelves0_body v_shelves0_sort v_shelves0_size v_shelves0_items v_shelves1_holds v_shelves1_body v_shelves1_sort v_shelves1_size v_shelves1_items v_shelves2_holds v_shelves2_body v_shelves2_sort v_shelves2_size v_shelves2_items v_shelves3_holds v_shelves3_body v_shelves3_sort v_shelves3_size v_shelves3_items v_shelves4_holds v_shelves4_body v_shelves4_sort v_shelves4_size v_shelves4_items v_shelves5_holds v_shelves5_body v_shelves5_sort v_shelves5_size v_shelves5_items)) (rest := []) C0 lk_X8_303 (ctX6_hasPart (a := (fun k => a (k + 89))) (d := d - 1) (by omega) hc_34) (by omega) rfl hl.1 rfl (mm_cat rfl) dX8_shift_107 hP hD hA hS rfl rfl [false, false, false, false, false, false, false, false, false, false, false, false, false, false, false, false, false, false, false, false, false, false, false, false, false, false, false, false, false, false, false, false, false, false, false, false, false, false, false, false, false, false, false, false, false, false, false, false, false, false, false, false, false, false, false, false, false, false, false, false, false, false, false, false, false, false, false, false, false, false, false, false, false, false, false, false, false, false, false, false, false, false, false, false, false, false, false, false, false, true, true, false, false, false, false, false, false, false, false] rfl rfl rfl rfl (fun H locs hP hD hS => ?_)
                          refine W.eq (g2 := F0 m 110 ls [.int (mm_b r_33)]) rfl ?_
                          refine lv_if_ne (tgt := 116) hx hb dX8_shift_110 (by decide) (fun c_35 => ?_) (fun c_35 => ?_)
                          · have hf := mm_in hf (mm_b1 c_35)
                            refine lv_aload hx hb dX8_shift_116 (lv_at hl 1 rfl) ?_
                            refine mm_get C0 hP iw_X6 87 rfl rfl 4 (by decide) fl_X8_299 rfl dX8_shift_118 ?_
                            refine lv_iload_n hx hb dX8_shift_121 rfl (lv_at hl 4 rfl) ?_
                            refine lv_aload hx hb dX8_shift_122 (lv_at hl 0 rfl) ?_
                            refine mm_get C0 hP iw_X6 89 rfl rfl 4 (by decide) fl_X8_299 rfl dX8_shift_124 ?_
                            refine lv_iload hx hb dX8_shift_127 (lv_at hl 6 rfl) ?_
                            refine lv_iload hx hb dX8_shift_129 (lv_at hl 7 rfl) ?_
                            obtain ⟨h_36, hf⟩ := mm_cks hf
                            refine mm_copyl C0 la_X8_306 hP hD hS 88 90 rfl rfl h_36 hl.1 (by omega) (mm_cat rfl) dX8_shift_131 (w2 := (wd_X8 cI cL cS cH a v_hasImage v_now_rows v_now_cols v_now_high v_now_wide v_now_folds v_now_wrong v_now_more v_now_rowOf v_now_colOf v_now_below v_now_face v_now_worn v_now_last v_now_bend v_now_tall v_kept_rows v_kept_cols v_kept_high v_kept_wide v_kept_folds v_kept_wrong v_kept_more v_kept_rowOf v_kept_colOf v_kept_below v_kept_face v_kept_worn v_kept_last v_kept_bend v_kept_tall v_wearing_size v_wearing_stepCount v_wearing_draftCount v_wearing_place v_wearing_fault v_wearing_stacked v_wearing_tape v_wearing_steps v_wearing_draft v_wearing_stack v_planned_size v_planned_trial_rows v_planned_trial_cols v_planned_trial_high v_planned_trial_wide v_planned_trial_folds v_planned_trial_wrong v_planned_trial_more v_planned_trial_rowOf v_planned_trial_colOf v_planned_trial_below v_planned_trial_face v_planned_trial_worn v_planned_trial_last v_planned_trial_bend v_planned_trial_tall v_planned_lines v_planned_ways v_search_found v_search_wrong v_search_more v_search_folds v_search_wanted v_search_levels0_rows v_search_levels0_cols v_search_levels0_high v_search_levels0_wide v_search_levels0_folds v_search_levels0_wrong v_search_levels0_more v_search_levels0_rowOf v_search_levels0_colOf v_search_levels0_below v_search_levels0_face v_search_levels0_worn v_search_levels0_last v_search_levels0_bend v_search_levels0_tall v_search_levels1_rows v_search_levels1_cols v_search_levels1_high v_search_levels1_wide v_search_levels1_folds v_search_levels1_wrong v_search_levels1_more v_search_levels1_rowOf v_search_levels1_colOf v_search_levels1_below v_search_levels1_face v_search_levels1_worn v_search_levels1_last v_search_levels1_bend v_search_levels1_tall v_search_levels2_rows v_search_levels2_cols v_search_levels2_high v_search_levels2_wide v_search_levels2_folds v_search_levels2_wrong v_search_levels2_more v_search_levels2_rowOf v_search_levels2_colOf v_search_levels2_below v_search_levels2_face v_search_levels2_worn v_search_levels2_last v_search_levels2_bend v_search_levels2_tall v_search_levels3_rows v_search_levels3_cols v_search_levels3_high v_search_levels3_wide v_search_levels3_folds v_search_levels3_wrong v_search_levels3_more v_search_levels3_rowOf v_search_levels3_colOf v_search_levels3_below v_search_levels3_face v_search_levels3_worn v_search_levels3_last v_search_levels3_bend v_search_levels3_tall v_search_path v_search_best v_strip_list v_strip_found v_strip_at v_changes_value v_changes_done v_changes_size v_changes_before v_changes_after v_foldings_size v_foldings_ran v_foldings_number v_foldings_kinds v_foldings_trace v_shelves0_holds v_shelves0_body v_shelves0_sort v_shelves0_size v_shelves0_items v_shelves1_holds v_shelves1_body v_shelves1_sort v_shelves1_size (mm_cp v_shelves0_items v_shelves1_items x2 x4 x5) v_shelves2_holds v_shelves2_body v_shelves2_sort v_shelves2_size v_shelves2_items v_shelves3_holds v_shelves3_body v_shelves3_sort v_shelves3_size v_shelves3_items v_shelves4_holds v_shelves4_body v_shelves4_sort v_shelves4_size v_shelves4_items v_shelves5_holds v_shelves5_body v_shelves5_sort v_shelves5_size v_shelves5_items)) rfl (fun H locs hP hD hS => ?_)
                            generalize el_37 : (mm_cp v_shelves0_items v_shelves1_items x2 x4 x5) = l_37 at hP hD
                            have hf := mm_nms hf el_37.symm
                            refine lv_iload hx hb dX8_shift_134 (lv_at hl 7 rfl) ?_
                            apply mm_sub7 hf
                            exact mm_iret C0 hP hD hS dX8_shift_136
                          · have hf := mm_ip hf (mm_b0 c_35)
                            refine lv_bipush (v := -13) hx hb dX8_shift_113 (by decide) ?_
                            apply mm_sub7 hf
                            exact mm_iret C0 hP hD hS dX8_shift_115
                    · have hf := mm_in hf c_28
                      refine lv_bipush (v := -12) hx hb dX8_shift_82 (by decide) ?_
                      apply mm_sub7 hf
                      exact mm_iret C0 hP hD hS dX8_shift_84
              · have hf := mm_ip hf c_25
                refine lv_bipush (v := -11) hx hb dX8_shift_48 (by decide) ?_
                apply mm_sub7 hf
                exact mm_iret C0 hP hD hS dX8_shift_50
          · have hf := mm_in hf c_23
            by_cases c_38 : x3 = (2 : Int32)
            · have hf := mm_ip hf c_38
              refine mm_aald 3 rfl C0 hP 86 rfl (b := a 91) (by rw [c_38]; rfl) (by rw [c_38]; rfl) dX8_shift_29 ?_
              refine lv_astore (lv' := [(7, .ref (a 91)), (6, .ref (a 87)), (0, .ref (a 0)), (1, .int x1), (2, .int x2), (3, .int x3), (4, .int x4), (5, .int x5)]) hx hb dX8_shift_30 hl (by decide) rfl (fun ls hl => ?_)
              refine lv_aload hx hb dX8_shift_32 (lv_at hl 1 rfl) ?_
              refine mm_get C0 hP iw_X6 87 rfl rfl 0 (by decide) fl_X8_168 rfl dX8_shift_34 ?_
              refine lv_if_eq (tgt := 48) hx hb dX8_shift_37 (by decide) (fun c_39 => ?_) (fun c_39 => ?_)
              · have hf := mm_ip hf c_39
                refine lv_bipush (v := -11) hx hb dX8_shift_48 (by decide) ?_
                apply mm_sub7 hf
                exact mm_iret C0 hP hD hS dX8_shift_50
              · have hf := mm_in hf c_39
                refine lv_aload hx hb dX8_shift_40 (lv_at hl 0 rfl) ?_
                refine mm_get C0 hP iw_X6 91 rfl rfl 0 (by decide) fl_X8_168 rfl dX8_shift_42 ?_
                refine lv_if_ne (tgt := 51) hx hb dX8_shift_45 (by decide) (fun c_40 => ?_) (fun c_40 => ?_)
                · have hf := mm_in hf c_40
                  refine lv_aload hx hb dX8_shift_51 (lv_at hl 1 rfl) ?_
                  refine mm_get C0 hP iw_X6 87 rfl rfl 0 (by decide) fl_X8_168 rfl dX8_shift_53 ?_
                  refine lv_iconst (v := 2) hx hb dX8_shift_56 (by decide) ?_
                  refine lv_icmp_ne (tgt := 82) hx hb dX8_shift_57 (by decide) (fun c_41 => ?_) (fun c_41 => ?_)
                  · have hf := mm_in hf c_41
                    refine lv_bipush (v := -12) hx hb dX8_shift_82 (by decide) ?_
                    apply mm_sub7 hf
                    exact mm_iret C0 hP hD hS dX8_shift_84
                  · have hf := mm_ip hf c_41
                    refine lv_aload hx hb dX8_shift_60 (lv_at hl 0 rfl) ?_
                    refine mm_get C0 hP iw_X6 91 rfl rfl 0 (by decide) fl_X8_168 rfl dX8_shift_62 ?_
                    refine lv_iconst (v := 2) hx hb dX8_shift_65 (by decide) ?_
                    refine lv_icmp_ne (tgt := 82) hx hb dX8_shift_66 (by decide) (fun c_42 => ?_) (fun c_42 => ?_)
                    · have hf := mm_in hf c_42
                      refine lv_bipush (v := -12) hx hb dX8_shift_82 (by decide) ?_
                      apply mm_sub7 hf
                      exact mm_iret C0 hP hD hS dX8_shift_84
                    · have hf := mm_ip hf c_42
                      refine lv_aload hx hb dX8_shift_69 (lv_at hl 1 rfl) ?_
                      refine mm_get C0 hP iw_X6 87 rfl rfl 2 (by decide) fl_X8_171 rfl dX8_shift_71 ?_
                      refine lv_aload hx hb dX8_shift_74 (lv_at hl 0 rfl) ?_
                      refine mm_get C0 hP iw_X6 91 rfl rfl 2 (by decide) fl_X8_171 rfl dX8_shift_76 ?_
                      refine lv_icmp_eq (tgt := 85) hx hb dX8_shift_79 (by decide) (fun c_43 => ?_) (fun c_43 => ?_)
                      · have hf := mm_ip hf c_43
                        refine lv_iload hx hb dX8_shift_85 (lv_at hl 7 rfl) ?_
                        refine lv_if_lt (tgt := 113) hx hb dX8_shift_87 (by decide) (fun c_44 => ?_) (fun c_44 => ?_)
                        · have hf := mm_ip hf c_44
                          refine lv_bipush (v := -13) hx hb dX8_shift_113 (by decide) ?_
                          apply mm_sub7 hf
                          exact mm_iret C0 hP hD hS dX8_shift_115
                        · have hf := mm_in hf c_44
                          refine lv_aload hx hb dX8_shift_90 (lv_at hl 1 rfl) ?_
                          refine lv_iload_n hx hb dX8_shift_92 rfl (lv_at hl 4 rfl) ?_
                          refine lv_iload hx hb dX8_shift_93 (lv_at hl 7 rfl) ?_
                          obtain ⟨r_45, hc_46, hf⟩ := mm_bd1s hf
                          refine mm_callW (q0 := 87) (ci := 6) (w2 := (wd_X8 cI cL cS cH a v_hasImage v_now_rows v_now_cols v_now_high v_now_wide v_now_folds v_now_wrong v_now_more v_now_rowOf v_now_colOf v_now_below v_now_face v_now_worn v_now_last v_now_bend v_now_tall v_kept_rows v_kept_cols v_kept_high v_kept_wide v_kept_folds v_kept_wrong v_kept_more v_kept_rowOf v_kept_colOf v_kept_below v_kept_face v_kept_worn v_kept_last v_kept_bend v_kept_tall v_wearing_size v_wearing_stepCount v_wearing_draftCount v_wearing_place v_wearing_fault v_wearing_stacked v_wearing_tape v_wearing_steps v_wearing_draft v_wearing_stack v_planned_size v_planned_trial_rows v_planned_trial_cols v_planned_trial_high v_planned_trial_wide v_planned_trial_folds v_planned_trial_wrong v_planned_trial_more v_planned_trial_rowOf v_planned_trial_colOf v_planned_trial_below v_planned_trial_face v_planned_trial_worn v_planned_trial_last v_planned_trial_bend v_planned_trial_tall v_planned_lines v_planned_ways v_search_found v_search_wrong v_search_more v_search_folds v_search_wanted v_search_levels0_rows v_search_levels0_cols v_search_levels0_high v_search_levels0_wide v_search_levels0_folds v_search_levels0_wrong v_search_levels0_more v_search_levels0_rowOf v_search_levels0_colOf v_search_levels0_below v_search_levels0_face v_search_levels0_worn v_search_levels0_last v_search_levels0_bend v_search_levels0_tall v_search_levels1_rows v_search_levels1_cols v_search_levels1_high v_search_levels1_wide v_search_levels1_folds v_search_levels1_wrong v_search_levels1_more v_search_levels1_rowOf v_search_levels1_colOf v_search_levels1_below v_search_levels1_face v_search_levels1_worn v_search_levels1_last v_search_levels1_bend v_search_levels1_tall v_search_levels2_rows v_search_levels2_cols v_search_levels2_high v_search_levels2_wide v_search_levels2_folds v_search_levels2_wrong v_search_levels2_more v_search_levels2_rowOf v_search_levels2_colOf v_search_levels2_below v_search_levels2_face v_search_levels2_worn v_search_levels2_last v_search_levels2_bend v_search_levels2_tall v_search_levels3_rows v_search_levels3_cols v_search_levels3_high v_search_levels3_wide v_search_levels3_folds v_search_levels3_wrong v_search_levels3_more v_search_levels3_rowOf v_search_levels3_colOf v_search_levels3_below v_search_levels3_face v_search_levels3_worn v_search_levels3_last v_search_levels3_bend v_search_levels3_tall v_search_path v_search_best v_strip_list v_strip_found v_strip_at v_changes_value v_changes_done v_changes_size v_changes_before v_changes_after v_foldings_size v_foldings_ran v_foldings_number v_foldings_kinds v_foldings_trace v_shelves0_holds v_shelves0_body v_shelves0_sort v_shelves0_size v_shelves0_items v_shelves1_holds v_shelves1_body v_shelves1_sort v_shelves1_size v_shelves1_items v_shelves2_holds v_shelves2_body v_shelves2_sort v_shelves2_size v_shelves2_items v_shelves3_holds v_shelves3_body v_shelves3_sort v_shelves3_size v_shelves3_items v_shelves4_holds v_shelves4_body v_shelves4_sort v_shelves4_size v_shelves4_items v_shelves5_holds v_shelves5_body v_shelves5_sort v_shelves5_size v_shelves5_items)) (rest := []) C0 lk_X8_303 (ctX6_hasPart (a := (fun k => a (k + 87))) (d := d - 1) (by omega) hc_46) (by omega) rfl hl.1 rfl (mm_cat rfl) dX8_shift_95 hP hD hA hS rfl rfl [false, false, false, false, false, false, false, false, false, false, false, false, false, false, false, false, false, false, false, false, false, false, false, false, false, false, false, false, false, false, false, false, false, false, false, false, false, false, false, false, false, false, false, false, false, false, false, false, false, false, false, false, false, false, false, false, false, false, false, false, false, false, false, false, false, false, false, false, false, false, false, false, false, false, false, false, false, false, false, false, false, false, false, false, false, false, false, true, true, false, false, false, false, false, false, false, false, false, false] rfl rfl rfl rfl (fun H locs hP hD hS => ?_)
                          refine W.eq (g2 := F0 m 98 ls [.int (mm_b r_45)]) rfl ?_
                          refine lv_if_eq (tgt := 113) hx hb dX8_shift_98 (by decide) (fun c_47 => ?_) (fun c_47 => ?_)
                          · have hf := mm_ip hf (mm_b0 c_47)
                            refine lv_bipush (v := -13) hx hb dX8_shift_113 (by decide) ?_
                            apply mm_sub7 hf
                            exact mm_iret C0 hP hD hS dX8_shift_115
                          · have hf := mm_in hf (mm_b1 c_47)
                            refine lv_aload hx hb dX8_shift_101 (lv_at hl 0 rfl) ?_
                            refine lv_iload hx hb dX8_shift_103 (lv_at hl 6 rfl) ?_
                            refine lv_iload hx hb dX8_shift_105 (lv_at hl 7 rfl) ?_
                            obtain ⟨r_48, hc_49, hf⟩ := mm_bd1s hf
                            refine mm_callW (q0 := 91) (ci := 6) (w2 := (wd_X8 cI cL cS cH a v_hasImage v_now_rows v_now_cols v_now_high v_now_wide v_now_folds v_now_wrong v_now_more v_now_rowOf v_now_colOf v_now_below v_now_face v_now_worn v_now_last v_now_bend v_now_tall v_kept_rows v_kept_cols v_kept_high v_kept_wide v_kept_folds v_kept_wrong v_kept_more v_kept_rowOf v_kept_colOf v_kept_below v_kept_face v_kept_worn v_kept_last v_kept_bend v_kept_tall v_wearing_size v_wearing_stepCount v_wearing_draftCount v_wearing_place v_wearing_fault v_wearing_stacked v_wearing_tape v_wearing_steps v_wearing_draft v_wearing_stack v_planned_size v_planned_trial_rows v_planned_trial_cols v_planned_trial_high v_planned_trial_wide v_planned_trial_folds v_planned_trial_wrong v_planned_trial_more v_planned_trial_rowOf v_planned_trial_colOf v_planned_trial_below v_planned_trial_face v_planned_trial_worn v_planned_trial_last v_planned_trial_bend v_planned_trial_tall v_planned_lines v_planned_ways v_search_found v_search_wrong v_search_more v_search_folds v_search_wanted v_search_levels0_rows v_search_levels0_cols v_search_levels0_high v_search_levels0_wide v_search_levels0_folds v_search_levels0_wrong v_search_levels0_more v_search_levels0_rowOf v_search_levels0_colOf v_search_levels0_below v_search_levels0_face v_search_levels0_worn v_search_levels0_last v_search_levels0_bend v_search_levels0_tall v_search_levels1_rows v_search_levels1_cols v_search_levels1_high v_search_levels1_wide v_search_levels1_folds v_search_levels1_wrong v_search_levels1_more v_search_levels1_rowOf v_search_levels1_colOf v_search_levels1_below v_search_levels1_face v_search_levels1_worn v_search_levels1_last v_search_levels1_bend v_search_levels1_tall v_search_levels2_rows v_search_levels2_cols v_search_levels2_high v_search_levels2_wide v_search_levels2_folds v_search_levels2_wrong v_search_levels2_more v_search_levels2_rowOf v_search_levels2_colOf v_search_levels2_below v_search_levels2_face v_search_levels2_worn v_search_levels2_last v_search_levels2_bend v_search_levels2_tall v_search_levels3_rows v_search_levels3_cols v_search_levels3_high v_search_levels3_wide v_search_levels3_folds v_search_levels3_wrong v_search_levels3_more v_search_levels3_rowOf v_search_levels3_colOf v_search_levels3_below v_search_levels3_face v_search_levels3_worn v_search_levels3_last v_search_levels3_bend v_search_levels3_tall v_search_path v_search_best v_strip_list v_strip_found v_strip_at v_changes_value v_changes_done v_changes_size v_changes_before v_changes_after v_foldings_size v_foldings_ran v_foldings_number v_foldings_kinds v_foldings_trace v_shelves0_holds v_shelves0_body v_shelves0_sort v_shelves0_size v_shelves0_items v_shelves1_holds v_shelves1_body v_shelves1_sort v_shelves1_size v_shelves1_items v_shelves2_holds v_shelves2_body v_shelves2_sort v_shelves2_size v_shelves2_items v_shelves3_holds v_shelves3_body v_shelves3_sort v_shelves3_size v_shelves3_items v_shelves4_holds v_shelves4_body v_shelves4_sort v_shelves4_size v_shelves4_items v_shelves5_holds v_shelves5_body v_shelves5_sort v_shelves5_size v_shelves5_items)) (rest := []) C0 lk_X8_303 (ctX6_hasPart (a := (fun k => a (k + 91))) (d := d - 1) (by omega) hc_49) (by omega) rfl hl.1 rfl (mm_cat rfl) dX8_shift_107 hP hD hA hS rfl rfl [false, false, false, false, false, false, false, false, false, false, false, false, false, false, false, false, false, false, false, false, false, false, false, false, false, false, false, false, false, false, false, false, false, false, false, false, false, false, false, false, false, false, false, false, false, false, false, false, false, false, false, false, false, false, false, false, false, false, false, false, false, false, false, false, false, false, false, false, false, false, false, false, false, false, false, false, false, false, false, false, false, false, false, false, false, false, false, false, false, false, false, true, true, false, false, false, false, false, false] rfl rfl rfl rfl (fun H locs hP hD hS => ?_)
                            refine W.eq (g2 := F0 m 110 ls [.int (mm_b r_48)]) rfl ?_
                            refine lv_if_ne (tgt := 116) hx hb dX8_shift_110 (by decide) (fun c_50 => ?_) (fun c_50 => ?_)
                            · have hf := mm_in hf (mm_b1 c_50)
                              refine lv_aload hx hb dX8_shift_116 (lv_at hl 1 rfl) ?_
                              refine mm_get C0 hP iw_X6 87 rfl rfl 4 (by decide) fl_X8_299 rfl dX8_shift_118 ?_
                              refine lv_iload_n hx hb dX8_shift_121 rfl (lv_at hl 4 rfl) ?_
                              refine lv_aload hx hb dX8_shift_122 (lv_at hl 0 rfl) ?_
                              refine mm_get C0 hP iw_X6 91 rfl rfl 4 (by decide) fl_X8_299 rfl dX8_shift_124 ?_
                              refine lv_iload hx hb dX8_shift_127 (lv_at hl 6 rfl) ?_
                              refine lv_iload hx hb dX8_shift_129 (lv_at hl 7 rfl) ?_
                              obtain ⟨h_51, hf⟩ := mm_cks hf
                              refine mm_copyl C0 la_X8_306 hP hD hS 88 92 rfl rfl h_51 hl.1 (by omega) (mm_cat rfl) dX8_shift_131 (w2 := (wd_X8 cI cL cS cH a v_hasImage v_now_rows v_now_cols v_now_high v_now_wide v_now_folds v_now_wrong v_now_more v_now_rowOf v_now_colOf v_now_below v_now_face v_now_worn v_now_last v_now_bend v_now_tall v_kept_rows v_kept_cols v_kept_high v_kept_wide v_kept_folds v_kept_wrong v_kept_more v_kept_rowOf v_kept_colOf v_kept_below v_kept_face v_kept_worn v_kept_last v_kept_bend v_kept_tall v_wearing_size v_wearing_stepCount v_wearing_draftCount v_wearing_place v_wearing_fault v_wearing_stacked v_wearing_tape v_wearing_steps v_wearing_draft v_wearing_stack v_planned_size v_planned_trial_rows v_planned_trial_cols v_planned_trial_high v_planned_trial_wide v_planned_trial_folds v_planned_trial_wrong v_planned_trial_more v_planned_trial_rowOf v_planned_trial_colOf v_planned_trial_below v_planned_trial_face v_planned_trial_worn v_planned_trial_last v_planned_trial_bend v_planned_trial_tall v_planned_lines v_planned_ways v_search_found v_search_wrong v_search_more v_search_folds v_search_wanted v_search_levels0_rows v_search_levels0_cols v_search_levels0_high v_search_levels0_wide v_search_levels0_folds v_search_levels0_wrong v_search_levels0_more v_search_levels0_rowOf v_search_levels0_colOf v_search_levels0_below v_search_levels0_face v_search_levels0_worn v_search_levels0_last v_search_levels0_bend v_search_levels0_tall v_search_levels1_rows v_search_levels1_cols v_search_levels1_high v_search_levels1_wide v_search_levels1_folds v_search_levels1_wrong v_search_levels1_more v_search_levels1_rowOf v_search_levels1_colOf v_search_levels1_below v_search_levels1_face v_search_levels1_worn v_search_levels1_last v_search_levels1_bend v_search_levels1_tall v_search_levels2_rows v_search_levels2_cols v_search_levels2_high v_search_levels2_wide v_search_levels2_folds v_search_levels2_wrong v_search_levels2_more v_search_levels2_rowOf v_search_levels2_colOf v_search_levels2_below v_search_levels2_face v_search_levels2_worn v_search_levels2_last v_search_levels2_bend v_search_levels2_tall v_search_levels3_rows v_search_levels3_cols v_search_levels3_high v_search_levels3_wide v_search_levels3_folds v_search_levels3_wrong v_search_levels3_more v_search_levels3_rowOf v_search_levels3_colOf v_search_levels3_below v_search_levels3_face v_search_levels3_worn v_search_levels3_last v_search_levels3_bend v_search_levels3_tall v_search_path v_search_best v_strip_list v_strip_found v_strip_at v_changes_value v_changes_done v_changes_size v_changes_before v_changes_after v_foldings_size v_foldings_ran v_foldings_number v_foldings_kinds v_foldings_trace v_shelves0_holds v_shelves0_body v_shelves0_sort v_shelves0_size v_shelves0_items v_shelves1_holds v_shelves1_body v_shelves1_sort v_shelves1_size v_shelves1_items v_shelves2_holds v_shelves2_body v_shelves2_sort v_shelves2_size (mm_cp v_shelves0_items v_shelves2_items x2 x4 x5) v_shelves3_holds v_shelves3_body v_shelves3_sort v_shelves3_size v_shelves3_items v_shelves4_holds v_shelves4_body v_shelves4_sort v_shelves4_size v_shelves4_items v_shelves5_holds v_shelves5_body v_shelves5_sort v_shelves5_size v_shelves5_items)) rfl (fun H locs hP hD hS => ?_)
                              generalize el_52 : (mm_cp v_shelves0_items v_shelves2_items x2 x4 x5) = l_52 at hP hD
                              have hf := mm_nms hf el_52.symm
                              refine lv_iload hx hb dX8_shift_134 (lv_at hl 7 rfl) ?_
                              apply mm_sub7 hf
                              exact mm_iret C0 hP hD hS dX8_shift_136
                            · have hf := mm_ip hf (mm_b0 c_50)
                              refine lv_bipush (v := -13) hx hb dX8_shift_113 (by decide) ?_
                              apply mm_sub7 hf
                              exact mm_iret C0 hP hD hS dX8_shift_115
                      · have hf := mm_in hf c_43
                        refine lv_bipush (v := -12) hx hb dX8_shift_82 (by decide) ?_
                        apply mm_sub7 hf
                        exact mm_iret C0 hP hD hS dX8_shift_84
                · have hf := mm_ip hf c_40
                  refine lv_bipush (v := -11) hx hb dX8_shift_48 (by decide) ?_
                  apply mm_sub7 hf
                  exact mm_iret C0 hP hD hS dX8_shift_50
            · have hf := mm_in hf c_38
              by_cases c_53 : x3 = (3 : Int32)
              · have hf := mm_ip hf c_53
                refine mm_aald 3 rfl C0 hP 86 rfl (b := a 93) (by rw [c_53]; rfl) (by rw [c_53]; rfl) dX8_shift_29 ?_
                refine lv_astore (lv' := [(7, .ref (a 93)), (6, .ref (a 87)), (0, .ref (a 0)), (1, .int x1), (2, .int x2), (3, .int x3), (4, .int x4), (5, .int x5)]) hx hb dX8_shift_30 hl (by decide) rfl (fun ls hl => ?_)
                refine lv_aload hx hb dX8_shift_32 (lv_at hl 1 rfl) ?_
                refine mm_get C0 hP iw_X6 87 rfl rfl 0 (by decide) fl_X8_168 rfl dX8_shift_34 ?_
                refine lv_if_eq (tgt := 48) hx hb dX8_shift_37 (by decide) (fun c_54 => ?_) (fun c_54 => ?_)
                · have hf := mm_ip hf c_54
                  refine lv_bipush (v := -11) hx hb dX8_shift_48 (by decide) ?_
                  apply mm_sub7 hf
                  exact mm_iret C0 hP hD hS dX8_shift_50
                · have hf := mm_in hf c_54
                  refine lv_aload hx hb dX8_shift_40 (lv_at hl 0 rfl) ?_
                  refine mm_get C0 hP iw_X6 93 rfl rfl 0 (by decide) fl_X8_168 rfl dX8_shift_42 ?_
                  refine lv_if_ne (tgt := 51) hx hb dX8_shift_45 (by decide) (fun c_55 => ?_) (fun c_55 => ?_)
                  · have hf := mm_in hf c_55
                    refine lv_aload hx hb dX8_shift_51 (lv_at hl 1 rfl) ?_
                    refine mm_get C0 hP iw_X6 87 rfl rfl 0 (by decide) fl_X8_168 rfl dX8_shift_53 ?_
                    refine lv_iconst (v := 2) hx hb dX8_shift_56 (by decide) ?_
                    refine lv_icmp_ne (tgt := 82) hx hb dX8_shift_57 (by decide) (fun c_56 => ?_) (fun c_56 => ?_)
                    · have hf := mm_in hf c_56
                      refine lv_bipush (v := -12) hx hb dX8_shift_82 (by decide) ?_
                      apply mm_sub7 hf
                      exact mm_iret C0 hP hD hS dX8_shift_84
                    · have hf := mm_ip hf c_56
                      refine lv_aload hx hb dX8_shift_60 (lv_at hl 0 rfl) ?_
                      refine mm_get C0 hP iw_X6 93 rfl rfl 0 (by decide) fl_X8_168 rfl dX8_shift_62 ?_
                      refine lv_iconst (v := 2) hx hb dX8_shift_65 (by decide) ?_
                      refine lv_icmp_ne (tgt := 82) hx hb dX8_shift_66 (by decide) (fun c_57 => ?_) (fun c_57 => ?_)
                      · have hf := mm_in hf c_57
                        refine lv_bipush (v := -12) hx hb dX8_shift_82 (by decide) ?_
                        apply mm_sub7 hf
                        exact mm_iret C0 hP hD hS dX8_shift_84
                      · have hf := mm_ip hf c_57
                        refine lv_aload hx hb dX8_shift_69 (lv_at hl 1 rfl) ?_
                        refine mm_get C0 hP iw_X6 87 rfl rfl 2 (by decide) fl_X8_171 rfl dX8_shift_71 ?_
                        refine lv_aload hx hb dX8_shift_74 (lv_at hl 0 rfl) ?_
                        refine mm_get C0 hP iw_X6 93 rfl rfl 2 (by decide) fl_X8_171 rfl dX8_shift_76 ?_
                        refine lv_icmp_eq (tgt := 85) hx hb dX8_shift_79 (by decide) (fun c_58 => ?_) (fun c_58 => ?_)
                        · have hf := mm_ip hf c_58
                          refine lv_iload hx hb dX8_shift_85 (lv_at hl 7 rfl) ?_
                          refine lv_if_lt (tgt := 113) hx hb dX8_shift_87 (by decide) (fun c_59 => ?_) (fun c_59 => ?_)
                          · have hf := mm_ip hf c_59
                            refine lv_bipush (v := -13) hx hb dX8_shift_113 (by decide) ?_
                            apply mm_sub7 hf
                            exact mm_iret C0 hP hD hS dX8_shift_115
                          · have hf := mm_in hf c_59
                            refine lv_aload hx hb dX8_shift_90 (lv_at hl 1 rfl) ?_
                            refine lv_iload_n hx hb dX8_shift_92 rfl (lv_at hl 4 rfl) ?_
                            refine lv_iload hx hb dX8_shift_93 (lv_at hl 7 rfl) ?_
                            obtain ⟨r_60, hc_61, hf⟩ := mm_bd1s hf
                            refine mm_callW (q0 := 87) (ci := 6) (w2 := (wd_X8 cI cL cS cH a v_hasImage v_now_rows v_now_cols v_now_high v_now_wide v_now_folds v_now_wrong v_now_more v_now_rowOf v_now_colOf v_now_below v_now_face v_now_worn v_now_last v_now_bend v_now_tall v_kept_rows v_kept_cols v_kept_high v_kept_wide v_kept_folds v_kept_wrong v_kept_more v_kept_rowOf v_kept_colOf v_kept_below v_kept_face v_kept_worn v_kept_last v_kept_bend v_kept_tall v_wearing_size v_wearing_stepCount v_wearing_draftCount v_wearing_place v_wearing_fault v_wearing_stacked v_wearing_tape v_wearing_steps v_wearing_draft v_wearing_stack v_planned_size v_planned_trial_rows v_planned_trial_cols v_planned_trial_high v_planned_trial_wide v_planned_trial_folds v_planned_trial_wrong v_planned_trial_more v_planned_trial_rowOf v_planned_trial_colOf v_planned_trial_below v_planned_trial_face v_planned_trial_worn v_planned_trial_last v_planned_trial_bend v_planned_trial_tall v_planned_lines v_planned_ways v_search_found v_search_wrong v_search_more v_search_folds v_search_wanted v_search_levels0_rows v_search_levels0_cols v_search_levels0_high v_search_levels0_wide v_search_levels0_folds v_search_levels0_wrong v_search_levels0_more v_search_levels0_rowOf v_search_levels0_colOf v_search_levels0_below v_search_levels0_face v_search_levels0_worn v_search_levels0_last v_search_levels0_bend v_search_levels0_tall v_search_levels1_rows v_search_levels1_cols v_search_levels1_high v_search_levels1_wide v_search_levels1_folds v_search_levels1_wrong v_search_levels1_more v_search_levels1_rowOf v_search_levels1_colOf v_search_levels1_below v_search_levels1_face v_search_levels1_worn v_search_levels1_last v_search_levels1_bend v_search_levels1_tall v_search_levels2_rows v_search_levels2_cols v_search_levels2_high v_search_levels2_wide v_search_levels2_folds v_search_levels2_wrong v_search_levels2_more v_search_levels2_rowOf v_search_levels2_colOf v_search_levels2_below v_search_levels2_face v_search_levels2_worn v_search_levels2_last v_search_levels2_bend v_search_levels2_tall v_search_levels3_rows v_search_levels3_cols v_search_levels3_high v_search_levels3_wide v_search_levels3_folds v_search_levels3_wrong v_search_levels3_more v_search_levels3_rowOf v_search_levels3_colOf v_search_levels3_below v_search_levels3_face v_search_levels3_worn v_search_levels3_last v_search_levels3_bend v_search_levels3_tall v_search_path v_search_best v_strip_list v_strip_found v_strip_at v_changes_value v_changes_done v_changes_size v_changes_before v_changes_after v_foldings_size v_foldings_ran v_foldings_number v_foldings_kinds v_foldings_trace v_shelves0_holds v_shelves0_body v_shelves0_sort v_shelves0_size v_shelves0_items v_shelves1_holds v_shelves1_body v_shelves1_sort v_shelves1_size v_shelves1_items v_shelves2_holds v_shelves2_body v_shelves2_sort v_shelves2_size v_shelves2_items v_shelves3_holds v_shelves3_body v_shelves3_sort v_shelves3_size v_shelves3_items v_shelves4_holds v_shelves4_body v_shelves4_sort v_shelves4_size v_shelves4_items v_shelves5_holds v_shelves5_body v_shelves5_sort v_shelves5_size v_shelves5_items)) (rest := []) C0 lk_X8_303 (ctX6_hasPart (a := (fun k => a (k + 87))) (d := d - 1) (by omega) hc_61) (by omega) rfl hl.1 rfl (mm_cat rfl) dX8_shift_95 hP hD hA hS rfl rfl [false, false, false, false, false, false, false, false, false, false, false, false, false, false, false, false, false, false, false, false, false, false, false, false, false, false, false, false, false, false, false, false, false, false, false, false, false, false, false, false, false, false, false, false, false, false, false, false, false, false, false, false, false, false, false, false, false, false, false, false, false, false, false, false, false, false, false, false, false, false, false, false, false, false, false, false, false, false, false, false, false, false, false, false, false, false, false, true, true, false, false, false, false, false, false, false, false, false, false] rfl rfl rfl rfl (fun H locs hP hD hS => ?_)
                            refine W.eq (g2 := F0 m 98 ls [.int (mm_b r_60)]) rfl ?_
                            refine lv_if_eq (tgt := 113) hx hb dX8_shift_98 (by decide) (fun c_62 => ?_) (fun c_62 => ?_)
                            · have hf := mm_ip hf (mm_b0 c_62)
                              refine lv_bipush (v := -13) hx hb dX8_shift_113 (by decide) ?_
                              apply mm_sub7 hf
                              exact mm_iret C0 hP hD hS dX8_shift_115
                            · have hf := mm_in hf (mm_b1 c_62)
                              refine lv_aload hx hb dX8_shift_101 (lv_at hl 0 rfl) ?_
                              refine lv_iload hx hb dX8_shift_103 (lv_at hl 6 rfl) ?_
                              refine lv_iload hx hb dX8_shift_105 (lv_at hl 7 rfl) ?_
                              obtain ⟨r_63, hc_64, hf⟩ := mm_bd1s hf
                              refine mm_callW (q0 := 93) (ci := 6) (w2 := (wd_X8 cI cL cS cH a v_hasImage v_now_rows v_now_cols v_now_high v_now_wide v_now_folds v_now_wrong v_now_more v_now_rowOf v_now_colOf v_now_below v_now_face v_now_worn v_now_last v_now_bend v_now_tall v_kept_rows v_kept_cols v_kept_high v_kept_wide v_kept_folds v_kept_wrong v_kept_more v_kept_rowOf v_kept_colOf v_kept_below v_kept_face v_kept_worn v_kept_last v_kept_bend v_kept_tall v_wearing_size v_wearing_stepCount v_wearing_draftCount v_wearing_place v_wearing_fault v_wearing_stacked v_wearing_tape v_wearing_steps v_wearing_draft v_wearing_stack v_planned_size v_planned_trial_rows v_planned_trial_cols v_planned_trial_high v_planned_trial_wide v_planned_trial_folds v_planned_trial_wrong v_planned_trial_more v_planned_trial_rowOf v_planned_trial_colOf v_planned_trial_below v_planned_trial_face v_planned_trial_worn v_planned_trial_last v_planned_trial_bend v_planned_trial_tall v_planned_lines v_planned_ways v_search_found v_search_wrong v_search_more v_search_folds v_search_wanted v_search_levels0_rows v_search_levels0_cols v_search_levels0_high v_search_levels0_wide v_search_levels0_folds v_search_levels0_wrong v_search_levels0_more v_search_levels0_rowOf v_search_levels0_colOf v_search_levels0_below v_search_levels0_face v_search_levels0_worn v_search_levels0_last v_search_levels0_bend v_search_levels0_tall v_search_levels1_rows v_search_levels1_cols v_search_levels1_high v_search_levels1_wide v_search_levels1_folds v_search_levels1_wrong v_search_levels1_more v_search_levels1_rowOf v_search_levels1_colOf v_search_levels1_below v_search_levels1_face v_search_levels1_worn v_search_levels1_last v_search_levels1_bend v_search_levels1_tall v_search_levels2_rows v_search_levels2_cols v_search_levels2_high v_search_levels2_wide v_search_levels2_folds v_search_levels2_wrong v_search_levels2_more v_search_levels2_rowOf v_search_levels2_colOf v_search_levels2_below v_search_levels2_face v_search_levels2_worn v_search_levels2_last v_search_levels2_bend v_search_levels2_tall v_search_levels3_rows v_search_levels3_cols v_search_levels3_high v_search_levels3_wide v_search_levels3_folds v_search_levels3_wrong v_search_levels3_more v_search_levels3_rowOf v_search_levels3_colOf v_search_levels3_below v_search_levels3_face v_search_levels3_worn v_search_levels3_last v_search_levels3_bend v_search_levels3_tall v_search_path v_search_best v_strip_list v_strip_found v_strip_at v_changes_value v_changes_done v_changes_size v_changes_before v_changes_after v_foldings_size v_foldings_ran v_foldings_number v_foldings_kinds v_foldings_trace v_shelves0_holds v_shelves0_body v_shelves0_sort v_shelves0_size v_shelves0_items v_shelves1_holds v_shelves1_body v_shelves1_sort v_shelves1_size v_shelves1_items v_shelves2_holds v_shelves2_body v_shelves2_sort v_shelves2_size v_shelves2_items v_shelves3_holds v_shelves3_body v_shelves3_sort v_shelves3_size v_shelves3_items v_shelves4_holds v_shelves4_body v_shelves4_sort v_shelves4_size v_shelves4_items v_shelves5_holds v_shelves5_body v_shelves5_sort v_shelves5_size v_shelves5_items)) (rest := []) C0 lk_X8_303 (ctX6_hasPart (a := (fun k => a (k + 93))) (d := d - 1) (by omega) hc_64) (by omega) rfl hl.1 rfl (mm_cat rfl) dX8_shift_107 hP hD hA hS rfl rfl [false, false, false, false, false, false, false, false, false, false, false, false, false, false, false, false, false, false, false, false, false, false, false, false, false, false, false, false, false, false, false, false, false, false, false, false, false, false, false, false, false, false, false, false, false, false, false, false, false, false, false, false, false, false, false, false, false, false, false, false, false, false, false, false, false, false, false, false, false, false, false, false, false, false, false, false, false, false, false, false, false, false, false, false, false, false, false, false, false, false, false, false, false, true, true, false, false, false, false] rfl rfl rfl rfl (fun H locs hP hD hS => ?_)
                              refine W.eq (g2 := F0 m 110 ls [.int (mm_b r_63)]) rfl ?_
                              refine lv_if_ne (tgt := 116) hx hb dX8_shift_110 (by decide) (fun c_65 => ?_) (fun c_65 => ?_)
                              · have hf := mm_in hf (mm_b1 c_65)
                                refine lv_aload hx hb dX8_shift_116 (lv_at hl 1 rfl) ?_
                                refine mm_get C0 hP iw_X6 87 rfl rfl 4 (by decide) fl_X8_299 rfl dX8_shift_118 ?_
                                refine lv_iload_n hx hb dX8_shift_121 rfl (lv_at hl 4 rfl) ?_
                                refine lv_aload hx hb dX8_shift_122 (lv_at hl 0 rfl) ?_
                                refine mm_get C0 hP iw_X6 93 rfl rfl 4 (by decide) fl_X8_299 rfl dX8_shift_124 ?_
                                refine lv_iload hx hb dX8_shift_127 (lv_at hl 6 rfl) ?_
                                refine lv_iload hx hb dX8_shift_129 (lv_at hl 7 rfl) ?_
                                obtain ⟨h_66, hf⟩ := mm_cks hf
                                refine mm_copyl C0 la_X8_306 hP hD hS 88 94 rfl rfl h_66 hl.1 (by omega) (mm_cat rfl) dX8_shift_131 (w2 := (wd_X8 cI cL cS cH a v_hasImage v_now_rows v_now_cols v_now_high v_now_wide v_now_folds v_now_wrong v_now_more v_now_rowOf v_now_colOf v_now_below v_now_face v_now_worn v_now_last v_now_bend v_now_tall v_kept_rows v_kept_cols v_kept_high v_kept_wide v_kept_folds v_kept_wrong v_kept_more v_kept_rowOf v_kept_colOf v_kept_below v_kept_face v_kept_worn v_kept_last v_kept_bend v_kept_tall v_wearing_size v_wearing_stepCount v_wearing_draftCount v_wearing_place v_wearing_fault v_wearing_stacked v_wearing_tape v_wearing_steps v_wearing_draft v_wearing_stack v_planned_size v_planned_trial_rows v_planned_trial_cols v_planned_trial_high v_planned_trial_wide v_planned_trial_folds v_planned_trial_wrong v_planned_trial_more v_planned_trial_rowOf v_planned_trial_colOf v_planned_trial_below v_planned_trial_face v_planned_trial_worn v_planned_trial_last v_planned_trial_bend v_planned_trial_tall v_planned_lines v_planned_ways v_search_found v_search_wrong v_search_more v_search_folds v_search_wanted v_search_levels0_rows v_search_levels0_cols v_search_levels0_high v_search_levels0_wide v_search_levels0_folds v_search_levels0_wrong v_search_levels0_more v_search_levels0_rowOf v_search_levels0_colOf v_search_levels0_below v_search_levels0_face v_search_levels0_worn v_search_levels0_last v_search_levels0_bend v_search_levels0_tall v_search_levels1_rows v_search_levels1_cols v_search_levels1_high v_search_levels1_wide v_search_levels1_folds v_search_levels1_wrong v_search_levels1_more v_search_levels1_rowOf v_search_levels1_colOf v_search_levels1_below v_search_levels1_face v_search_levels1_worn v_search_levels1_last v_search_levels1_bend v_search_levels1_tall v_search_levels2_rows v_search_levels2_cols v_search_levels2_high v_search_levels2_wide v_search_levels2_folds v_search_levels2_wrong v_search_levels2_more v_search_levels2_rowOf v_search_levels2_colOf v_search_levels2_below v_search_levels2_face v_search_levels2_worn v_search_levels2_last v_search_levels2_bend v_search_levels2_tall v_search_levels3_rows v_search_levels3_cols v_search_levels3_high v_search_levels3_wide v_search_levels3_folds v_search_levels3_wrong v_search_levels3_more v_search_levels3_rowOf v_search_levels3_colOf v_search_levels3_below v_search_levels3_face v_search_levels3_worn v_search_levels3_last v_search_levels3_bend v_search_levels3_tall v_search_path v_search_best v_strip_list v_strip_found v_strip_at v_changes_value v_changes_done v_changes_size v_changes_before v_changes_after v_foldings_size v_foldings_ran v_foldings_number v_foldings_kinds v_foldings_trace v_shelves0_holds v_shelves0_body v_shelves0_sort v_shelves0_size v_shelves0_items v_shelves1_holds v_shelves1_body v_shelves1_sort v_shelves1_size v_shelves1_items v_shelves2_holds v_shelves2_body v_shelves2_sort v_shelves2_size v_shelves2_items v_shelves3_holds v_shelves3_body v_shelves3_sort v_shelves3_size (mm_cp v_shelves0_items v_shelves3_items x2 x4 x5) v_shelves4_holds v_shelves4_body v_shelves4_sort v_shelves4_size v_shelves4_items v_shelves5_holds v_shelves5_body v_shelves5_sort v_shelves5_size v_shelves5_items)) rfl (fun H locs hP hD hS => ?_)
                                generalize el_67 : (mm_cp v_shelves0_items v_shelves3_items x2 x4 x5) = l_67 at hP hD
                                have hf := mm_nms hf el_67.symm
                                refine lv_iload hx hb dX8_shift_134 (lv_at hl 7 rfl) ?_
                                apply mm_sub7 hf
                                exact mm_iret C0 hP hD hS dX8_shift_136
                              · have hf := mm_ip hf (mm_b0 c_65)
                                refine lv_bipush (v := -13) hx hb dX8_shift_113 (by decide) ?_
                                apply mm_sub7 hf
                                exact mm_iret C0 hP hD hS dX8_shift_115
                        · have hf := mm_in hf c_58
                          refine lv_bipush (v := -12) hx hb dX8_shift_82 (by decide) ?_
                          apply mm_sub7 hf
                          exact mm_iret C0 hP hD hS dX8_shift_84
                  · have hf := mm_ip hf c_55
                    refine lv_bipush (v := -11) hx hb dX8_shift_48 (by decide) ?_
                    apply mm_sub7 hf
                    exact mm_iret C0 hP hD hS dX8_shift_50
              · have hf := mm_in hf c_53
                by_cases c_68 : x3 = (4 : Int32)
                · have hf := mm_ip hf c_68
                  refine mm_aald 3 rfl C0 hP 86 rfl (b := a 95) (by rw [c_68]; rfl) (by rw [c_68]; rfl) dX8_shift_29 ?_
                  refine lv_astore (lv' := [(7, .ref (a 95)), (6, .ref (a 87)), (0, .ref (a 0)), (1, .int x1), (2, .int x2), (3, .int x3), (4, .int x4), (5, .int x5)]) hx hb dX8_shift_30 hl (by decide) rfl (fun ls hl => ?_)
                  refine lv_aload hx hb dX8_shift_32 (lv_at hl 1 rfl) ?_
                  refine mm_get C0 hP iw_X6 87 rfl rfl 0 (by decide) fl_X8_168 rfl dX8_shift_34 ?_
                  refine lv_if_eq (tgt := 48) hx hb dX8_shift_37 (by decide) (fun c_69 => ?_) (fun c_69 => ?_)
                  · have hf := mm_ip hf c_69
                    refine lv_bipush (v := -11) hx hb dX8_shift_48 (by decide) ?_
                    apply mm_sub7 hf
                    exact mm_iret C0 hP hD hS dX8_shift_50
                  · have hf := mm_in hf c_69
                    refine lv_aload hx hb dX8_shift_40 (lv_at hl 0 rfl) ?_
                    refine mm_get C0 hP iw_X6 95 rfl rfl 0 (by decide) fl_X8_168 rfl dX8_shift_42 ?_
                    refine lv_if_ne (tgt := 51) hx hb dX8_shift_45 (by decide) (fun c_70 => ?_) (fun c_70 => ?_)
                    · have hf := mm_in hf c_70
                      refine lv_aload hx hb dX8_shift_51 (lv_at hl 1 rfl) ?_
                      refine mm_get C0 hP iw_X6 87 rfl rfl 0 (by decide) fl_X8_168 rfl dX8_shift_53 ?_
                      refine lv_iconst (v := 2) hx hb dX8_shift_56 (by decide) ?_
                      refine lv_icmp_ne (tgt := 82) hx hb dX8_shift_57 (by decide) (fun c_71 => ?_) (fun c_71 => ?_)
                      · have hf := mm_in hf c_71
                        refine lv_bipush (v := -12) hx hb dX8_shift_82 (by decide) ?_
                        apply mm_sub7 hf
                        exact mm_iret C0 hP hD hS dX8_shift_84
                      · have hf := mm_ip hf c_71
                        refine lv_aload hx hb dX8_shift_60 (lv_at hl 0 rfl) ?_
                        refine mm_get C0 hP iw_X6 95 rfl rfl 0 (by decide) fl_X8_168 rfl dX8_shift_62 ?_
                        refine lv_iconst (v := 2) hx hb dX8_shift_65 (by decide) ?_
                        refine lv_icmp_ne (tgt := 82) hx hb dX8_shift_66 (by decide) (fun c_72 => ?_) (fun c_72 => ?_)
                        · have hf := mm_in hf c_72
                          refine lv_bipush (v := -12) hx hb dX8_shift_82 (by decide) ?_
                          apply mm_sub7 hf
                          exact mm_iret C0 hP hD hS dX8_shift_84
                        · have hf := mm_ip hf c_72
                          refine lv_aload hx hb dX8_shift_69 (lv_at hl 1 rfl) ?_
                          refine mm_get C0 hP iw_X6 87 rfl rfl 2 (by decide) fl_X8_171 rfl dX8_shift_71 ?_
                          refine lv_aload hx hb dX8_shift_74 (lv_at hl 0 rfl) ?_
                          refine mm_get C0 hP iw_X6 95 rfl rfl 2 (by decide) fl_X8_171 rfl dX8_shift_76 ?_
                          refine lv_icmp_eq (tgt := 85) hx hb dX8_shift_79 (by decide) (fun c_73 => ?_) (fun c_73 => ?_)
                          · have hf := mm_ip hf c_73
                            refine lv_iload hx hb dX8_shift_85 (lv_at hl 7 rfl) ?_
                            refine lv_if_lt (tgt := 113) hx hb dX8_shift_87 (by decide) (fun c_74 => ?_) (fun c_74 => ?_)
                            · have hf := mm_ip hf c_74
                              refine lv_bipush (v := -13) hx hb dX8_shift_113 (by decide) ?_
                              apply mm_sub7 hf
                              exact mm_iret C0 hP hD hS dX8_shift_115
                            · have hf := mm_in hf c_74
                              refine lv_aload hx hb dX8_shift_90 (lv_at hl 1 rfl) ?_
                              refine lv_iload_n hx hb dX8_shift_92 rfl (lv_at hl 4 rfl) ?_
                              refine lv_iload hx hb dX8_shift_93 (lv_at hl 7 rfl) ?_
                              obtain ⟨r_75, hc_76, hf⟩ := mm_bd1s hf
                              refine mm_callW (q0 := 87) (ci := 6) (w2 := (wd_X8 cI cL cS cH a v_hasImage v_now_rows v_now_cols v_now_high v_now_wide v_now_folds v_now_wrong v_now_more v_now_rowOf v_now_colOf v_now_below v_now_face v_now_worn v_now_last v_now_bend v_now_tall v_kept_rows v_kept_cols v_kept_high v_kept_wide v_kept_folds v_kept_wrong v_kept_more v_kept_rowOf v_kept_colOf v_kept_below v_kept_face v_kept_worn v_kept_last v_kept_bend v_kept_tall v_wearing_size v_wearing_stepCount v_wearing_draftCount v_wearing_place v_wearing_fault v_wearing_stacked v_wearing_tape v_wearing_steps v_wearing_draft v_wearing_stack v_planned_size v_planned_trial_rows v_planned_trial_cols v_planned_trial_high v_planned_trial_wide v_planned_trial_folds v_planned_trial_wrong v_planned_trial_more v_planned_trial_rowOf v_planned_trial_colOf v_planned_trial_below v_planned_trial_face v_planned_trial_worn v_planned_trial_last v_planned_trial_bend v_planned_trial_tall v_planned_lines v_planned_ways v_search_found v_search_wrong v_search_more v_search_folds v_search_wanted v_search_levels0_rows v_search_levels0_cols v_search_levels0_high v_search_levels0_wide v_search_levels0_folds v_search_levels0_wrong v_search_levels0_more v_search_levels0_rowOf v_search_levels0_colOf v_search_levels0_below v_search_levels0_face v_search_levels0_worn v_search_levels0_last v_search_levels0_bend v_search_levels0_tall v_search_levels1_rows v_search_levels1_cols v_search_levels1_high v_search_levels1_wide v_search_levels1_folds v_search_levels1_wrong v_search_levels1_more v_search_levels1_rowOf v_search_levels1_colOf v_search_levels1_below v_search_levels1_face v_search_levels1_worn v_search_levels1_last v_search_levels1_bend v_search_levels1_tall v_search_levels2_rows v_search_levels2_cols v_search_levels2_high v_search_levels2_wide v_search_levels2_folds v_search_levels2_wrong v_search_levels2_more v_search_levels2_rowOf v_search_levels2_colOf v_search_levels2_below v_search_levels2_face v_search_levels2_worn v_search_levels2_last v_search_levels2_bend v_search_levels2_tall v_search_levels3_rows v_search_levels3_cols v_search_levels3_high v_search_levels3_wide v_search_levels3_folds v_search_levels3_wrong v_search_levels3_more v_search_levels3_rowOf v_search_levels3_colOf v_search_levels3_below v_search_levels3_face v_search_levels3_worn v_search_levels3_last v_search_levels3_bend v_search_levels3_tall v_search_path v_search_best v_strip_list v_strip_found v_strip_at v_changes_value v_changes_done v_changes_size v_changes_before v_changes_after v_foldings_size v_foldings_ran v_foldings_number v_foldings_kinds v_foldings_trace v_shelves0_holds v_shelves0_body v_shelves0_sort v_shelves0_size v_shelves0_items v_shelves1_holds v_shelves1_body v_shelves1_sort v_shelves1_size v_shelves1_items v_shelves2_holds v_shelves2_body v_shelves2_sort v_shelves2_size v_shelves2_items v_shelves3_holds v_shelves3_body v_shelves3_sort v_shelves3_size v_shelves3_items v_shelves4_holds v_shelves4_body v_shelves4_sort v_shelves4_size v_shelves4_items v_shelves5_holds v_shelves5_body v_shelves5_sort v_shelves5_size v_shelves5_items)) (rest := []) C0 lk_X8_303 (ctX6_hasPart (a := (fun k => a (k + 87))) (d := d - 1) (by omega) hc_76) (by omega) rfl hl.1 rfl (mm_cat rfl) dX8_shift_95 hP hD hA hS rfl rfl [false, false, false, false, false, false, false, false, false, false, false, false, false, false, false, false, false, false, false, false, false, false, false, false, false, false, false, false, false, false, false, false, false, false, false, false, false, false, false, false, false, false, false, false, false, false, false, false, false, false, false, false, false, false, false, false, false, false, false, false, false, false, false, false, false, false, false, false, false, false, false, false, false, false, false, false, false, false, false, false, false, false, false, false, false, false, false, true, true, false, false, false, false, false, false, false, false, false, false] rfl rfl rfl rfl (fun H locs hP hD hS => ?_)
                              refine W.eq (g2 := F0 m 98 ls [.int (mm_b r_75)]) rfl ?_
                              refine lv_if_eq (tgt := 113) hx hb dX8_shift_98 (by decide) (fun c_77 => ?_) (fun c_77 => ?_)
                              · have hf := mm_ip hf (mm_b0 c_77)
                                refine lv_bipush (v := -13) hx hb dX8_shift_113 (by decide) ?_
                                apply mm_sub7 hf
                                exact mm_iret C0 hP hD hS dX8_shift_115
                              · have hf := mm_in hf (mm_b1 c_77)
                                refine lv_aload hx hb dX8_shift_101 (lv_at hl 0 rfl) ?_
                                refine lv_iload hx hb dX8_shift_103 (lv_at hl 6 rfl) ?_
                                refine lv_iload hx hb dX8_shift_105 (lv_at hl 7 rfl) ?_
                                obtain ⟨r_78, hc_79, hf⟩ := mm_bd1s hf
                                refine mm_callW (q0 := 95) (ci := 6) (w2 := (wd_X8 cI cL cS cH a v_hasImage v_now_rows v_now_cols v_now_high v_now_wide v_now_folds v_now_wrong v_now_more v_now_rowOf v_now_colOf v_now_below v_now_face v_now_worn v_now_last v_now_bend v_now_tall v_kept_rows v_kept_cols v_kept_high v_kept_wide v_kept_folds v_kept_wrong v_kept_more v_kept_rowOf v_kept_colOf v_kept_below v_kept_face v_kept_worn v_kept_last v_kept_bend v_kept_tall v_wearing_size v_wearing_stepCount v_wearing_draftCount v_wearing_place v_wearing_fault v_wearing_stacked v_wearing_tape v_wearing_steps v_wearing_draft v_wearing_stack v_planned_size v_planned_trial_rows v_planned_trial_cols v_planned_trial_high v_planned_trial_wide v_planned_trial_folds v_planned_trial_wrong v_planned_trial_more v_planned_trial_rowOf v_planned_trial_colOf v_planned_trial_below v_planned_trial_face v_planned_trial_worn v_planned_trial_last v_planned_trial_bend v_planned_trial_tall v_planned_lines v_planned_ways v_search_found v_search_wrong v_search_more v_search_folds v_search_wanted v_search_levels0_rows v_search_levels0_cols v_search_levels0_high v_search_levels0_wide v_search_levels0_folds v_search_levels0_wrong v_search_levels0_more v_search_levels0_rowOf v_search_levels0_colOf v_search_levels0_below v_search_levels0_face v_search_levels0_worn v_search_levels0_last v_search_levels0_bend v_search_levels0_tall v_search_levels1_rows v_search_levels1_cols v_search_levels1_high v_search_levels1_wide v_search_levels1_folds v_search_levels1_wrong v_search_levels1_more v_search_levels1_rowOf v_search_levels1_colOf v_search_levels1_below v_search_levels1_face v_search_levels1_worn v_search_levels1_last v_search_levels1_bend v_search_levels1_tall v_search_levels2_rows v_search_levels2_cols v_search_levels2_high v_search_levels2_wide v_search_levels2_folds v_search_levels2_wrong v_search_levels2_more v_search_levels2_rowOf v_search_levels2_colOf v_search_levels2_below v_search_levels2_face v_search_levels2_worn v_search_levels2_last v_search_levels2_bend v_search_levels2_tall v_search_levels3_rows v_search_levels3_cols v_search_levels3_high v_search_levels3_wide v_search_levels3_folds v_search_levels3_wrong v_search_levels3_more v_search_levels3_rowOf v_search_levels3_colOf v_search_levels3_below v_search_levels3_face v_search_levels3_worn v_search_levels3_last v_search_levels3_bend v_search_levels3_tall v_search_path v_search_best v_strip_list v_strip_found v_strip_at v_changes_value v_changes_done v_changes_size v_changes_before v_changes_after v_foldings_size v_foldings_ran v_foldings_number v_foldings_kinds v_foldings_trace v_shelves0_holds v_shelves0_body v_shelves0_sort v_shelves0_size v_shelves0_items v_shelves1_holds v_shelves1_body v_shelves1_sort v_shelves1_size v_shelves1_items v_shelves2_holds v_shelves2_body v_shelves2_sort v_shelves2_size v_shelves2_items v_shelves3_holds v_shelves3_body v_shelves3_sort v_shelves3_size v_shelves3_items v_shelves4_holds v_shelves4_body v_shelves4_sort v_shelves4_size v_shelves4_items v_shelves5_holds v_shelves5_body v_shelves5_sort v_shelves5_size v_shelves5_items)) (rest := []) C0 lk_X8_303 (ctX6_hasPart (a := (fun k => a (k + 95))) (d := d - 1) (by omega) hc_79) (by omega) rfl hl.1 rfl (mm_cat rfl) dX8_shift_107 hP hD hA hS rfl rfl [false, false, false, false, false, false, false, false, false, false, false, false, false, false, false, false, false, false, false, false, false, false, false, false, false, false, false, false, false, false, false, false, false, false, false, false, false, false, false, false, false, false, false, false, false, false, false, false, false, false, false, false, false, false, false, false, false, false, false, false, false, false, false, false, false, false, false, false, false, false, false, false, false, false, false, false, false, false, false, false, false, false, false, false, false, false, false, false, false, false, false, false, false, false, false, true, true, false, false] rfl rfl rfl rfl (fun H locs hP hD hS => ?_)
                                refine W.eq (g2 := F0 m 110 ls [.int (mm_b r_78)]) rfl ?_
                                refine lv_if_ne (tgt := 116) hx hb dX8_shift_110 (by decide) (fun c_80 => ?_) (fun c_80 => ?_)
                                · have hf := mm_in hf (mm_b1 c_80)
                                  refine lv_aload hx hb dX8_shift_116 (lv_at hl 1 rfl) ?_
                                  refine mm_get C0 hP iw_X6 87 rfl rfl 4 (by decide) fl_X8_299 rfl dX8_shift_118 ?_
                                  refine lv_iload_n hx hb dX8_shift_121 rfl (lv_at hl 4 rfl) ?_
                                  refine lv_aload hx hb dX8_shift_122 (lv_at hl 0 rfl) ?_
                                  refine mm_get C0 hP iw_X6 95 rfl rfl 4 (by decide) fl_X8_299 rfl dX8_shift_124 ?_
                                  refine lv_iload hx hb dX8_shift_127 (lv_at hl 6 rfl) ?_
                                  refine lv_iload hx hb dX8_shift_129 (lv_at hl 7 rfl) ?_
                                  obtain ⟨h_81, hf⟩ := mm_cks hf
                                  refine mm_copyl C0 la_X8_306 hP hD hS 88 96 rfl rfl h_81 hl.1 (by omega) (mm_cat rfl) dX8_shift_131 (w2 := (wd_X8 cI cL cS cH a v_hasImage v_now_rows v_now_cols v_now_high v_now_wide v_now_folds v_now_wrong v_now_more v_now_rowOf v_now_colOf v_now_below v_now_face v_now_worn v_now_last v_now_bend v_now_tall v_kept_rows v_kept_cols v_kept_high v_kept_wide v_kept_folds v_kept_wrong v_kept_more v_kept_rowOf v_kept_colOf v_kept_below v_kept_face v_kept_worn v_kept_last v_kept_bend v_kept_tall v_wearing_size v_wearing_stepCount v_wearing_draftCount v_wearing_place v_wearing_fault v_wearing_stacked v_wearing_tape v_wearing_steps v_wearing_draft v_wearing_stack v_planned_size v_planned_trial_rows v_planned_trial_cols v_planned_trial_high v_planned_trial_wide v_planned_trial_folds v_planned_trial_wrong v_planned_trial_more v_planned_trial_rowOf v_planned_trial_colOf v_planned_trial_below v_planned_trial_face v_planned_trial_worn v_planned_trial_last v_planned_trial_bend v_planned_trial_tall v_planned_lines v_planned_ways v_search_found v_search_wrong v_search_more v_search_folds v_search_wanted v_search_levels0_rows v_search_levels0_cols v_search_levels0_high v_search_levels0_wide v_search_levels0_folds v_search_levels0_wrong v_search_levels0_more v_search_levels0_rowOf v_search_levels0_colOf v_search_levels0_below v_search_levels0_face v_search_levels0_worn v_search_levels0_last v_search_levels0_bend v_search_levels0_tall v_search_levels1_rows v_search_levels1_cols v_search_levels1_high v_search_levels1_wide v_search_levels1_folds v_search_levels1_wrong v_search_levels1_more v_search_levels1_rowOf v_search_levels1_colOf v_search_levels1_below v_search_levels1_face v_search_levels1_worn v_search_levels1_last v_search_levels1_bend v_search_levels1_tall v_search_levels2_rows v_search_levels2_cols v_search_levels2_high v_search_levels2_wide v_search_levels2_folds v_search_levels2_wrong v_search_levels2_more v_search_levels2_rowOf v_search_levels2_colOf v_search_levels2_below v_search_levels2_face v_search_levels2_worn v_search_levels2_last v_search_levels2_bend v_search_levels2_tall v_search_levels3_rows v_search_levels3_cols v_search_levels3_high v_search_levels3_wide v_search_levels3_folds v_search_levels3_wrong v_search_levels3_more v_search_levels3_rowOf v_search_levels3_colOf v_search_levels3_below v_search_levels3_face v_search_levels3_worn v_search_levels3_last v_search_levels3_bend v_search_levels3_tall v_search_path v_search_best v_strip_list v_strip_found v_strip_at v_changes_value v_changes_done v_changes_size v_changes_before v_changes_after v_foldings_size v_foldings_ran v_foldings_number v_foldings_kinds v_foldings_trace v_shelves0_holds v_shelves0_body v_shelves0_sort v_shelves0_size v_shelves0_items v_shelves1_holds v_shelves1_body v_shelves1_sort v_shelves1_size v_shelves1_items v_shelves2_holds v_shelves2_body v_shelves2_sort v_shelves2_size v_shelves2_items v_shelves3_holds v_shelves3_body v_shelves3_sort v_shelves3_size v_shelves3_items v_shelves4_holds v_shelves4_body v_shelves4_sort v_shelves4_size (mm_cp v_shelves0_items v_shelves4_items x2 x4 x5) v_shelves5_holds v_shelves5_body v_shelves5_sort v_shelves5_size v_shelves5_items)) rfl (fun H locs hP hD hS => ?_)
                                  generalize el_82 : (mm_cp v_shelves0_items v_shelves4_items x2 x4 x5) = l_82 at hP hD
                                  have hf := mm_nms hf el_82.symm
                                  refine lv_iload hx hb dX8_shift_134 (lv_at hl 7 rfl) ?_
                                  apply mm_sub7 hf
                                  exact mm_iret C0 hP hD hS dX8_shift_136
                                · have hf := mm_ip hf (mm_b0 c_80)
                                  refine lv_bipush (v := -13) hx hb dX8_shift_113 (by decide) ?_
                                  apply mm_sub7 hf
                                  exact mm_iret C0 hP hD hS dX8_shift_115
                          · have hf := mm_in hf c_73
                            refine lv_bipush (v := -12) hx hb dX8_shift_82 (by decide) ?_
                            apply mm_sub7 hf
                            exact mm_iret C0 hP hD hS dX8_shift_84
                    · have hf := mm_ip hf c_70
                      refine lv_bipush (v := -11) hx hb dX8_shift_48 (by decide) ?_
                      apply mm_sub7 hf
                      exact mm_iret C0 hP hD hS dX8_shift_50
                · have hf := mm_in hf c_68
                  by_cases c_83 : x3 = (5 : Int32)
                  · have hf := mm_ip hf c_83
                    refine mm_aald 3 rfl C0 hP 86 rfl (b := a 97) (by rw [c_83]; rfl) (by rw [c_83]; rfl) dX8_shift_29 ?_
                    refine lv_astore (lv' := [(7, .ref (a 97)), (6, .ref (a 87)), (0, .ref (a 0)), (1, .int x1), (2, .int x2), (3, .int x3), (4, .int x4), (5, .int x5)]) hx hb dX8_shift_30 hl (by decide) rfl (fun ls hl => ?_)
                    refine lv_aload hx hb dX8_shift_32 (lv_at hl 1 rfl) ?_
                    refine mm_get C0 hP iw_X6 87 rfl rfl 0 (by decide) fl_X8_168 rfl dX8_shift_34 ?_
                    refine lv_if_eq (tgt := 48) hx hb dX8_shift_37 (by decide) (fun c_84 => ?_) (fun c_84 => ?_)
                    · have hf := mm_ip hf c_84
                      refine lv_bipush (v := -11) hx hb dX8_shift_48 (by decide) ?_
                      apply mm_sub7 hf
                      exact mm_iret C0 hP hD hS dX8_shift_50
                    · have hf := mm_in hf c_84
                      refine lv_aload hx hb dX8_shift_40 (lv_at hl 0 rfl) ?_
                      refine mm_get C0 hP iw_X6 97 rfl rfl 0 (by decide) fl_X8_168 rfl dX8_shift_42 ?_
                      refine lv_if_ne (tgt := 51) hx hb dX8_shift_45 (by decide) (fun c_85 => ?_) (fun c_85 => ?_)
                      · have hf := mm_in hf c_85
                        refine lv_aload hx hb dX8_shift_51 (lv_at hl 1 rfl) ?_
                        refine mm_get C0 hP iw_X6 87 rfl rfl 0 (by decide) fl_X8_168 rfl dX8_shift_53 ?_
                        refine lv_iconst (v := 2) hx hb dX8_shift_56 (by decide) ?_
                        refine lv_icmp_ne (tgt := 82) hx hb dX8_shift_57 (by decide) (fun c_86 => ?_) (fun c_86 => ?_)
                        · have hf := mm_in hf c_86
                          refine lv_bipush (v := -12) hx hb dX8_shift_82 (by decide) ?_
                          apply mm_sub7 hf
                          exact mm_iret C0 hP hD hS dX8_shift_84
                        · have hf := mm_ip hf c_86
                          refine lv_aload hx hb dX8_shift_60 (lv_at hl 0 rfl) ?_
                          refine mm_get C0 hP iw_X6 97 rfl rfl 0 (by decide) fl_X8_168 rfl dX8_shift_62 ?_
                          refine lv_iconst (v := 2) hx hb dX8_shift_65 (by decide) ?_
                          refine lv_icmp_ne (tgt := 82) hx hb dX8_shift_66 (by decide) (fun c_87 => ?_) (fun c_87 => ?_)
                          · have hf := mm_in hf c_87
                            refine lv_bipush (v := -12) hx hb dX8_shift_82 (by decide) ?_
                            apply mm_sub7 hf
                            exact mm_iret C0 hP hD hS dX8_shift_84
                          · have hf := mm_ip hf c_87
                            refine lv_aload hx hb dX8_shift_69 (lv_at hl 1 rfl) ?_
                            refine mm_get C0 hP iw_X6 87 rfl rfl 2 (by decide) fl_X8_171 rfl dX8_shift_71 ?_
                            refine lv_aload hx hb dX8_shift_74 (lv_at hl 0 rfl) ?_
                            refine mm_get C0 hP iw_X6 97 rfl rfl 2 (by decide) fl_X8_171 rfl dX8_shift_76 ?_
                            refine lv_icmp_eq (tgt := 85) hx hb dX8_shift_79 (by decide) (fun c_88 => ?_) (fun c_88 => ?_)
                            · have hf := mm_ip hf c_88
                              refine lv_iload hx hb dX8_shift_85 (lv_at hl 7 rfl) ?_
                              refine lv_if_lt (tgt := 113) hx hb dX8_shift_87 (by decide) (fun c_89 => ?_) (fun c_89 => ?_)
                              · have hf := mm_ip hf c_89
                                refine lv_bipush (v := -13) hx hb dX8_shift_113 (by decide) ?_
                                apply mm_sub7 hf
                                exact mm_iret C0 hP hD hS dX8_shift_115
                              · have hf := mm_in hf c_89
                                refine lv_aload hx hb dX8_shift_90 (lv_at hl 1 rfl) ?_
                                refine lv_iload_n hx hb dX8_shift_92 rfl (lv_at hl 4 rfl) ?_
                                refine lv_iload hx hb dX8_shift_93 (lv_at hl 7 rfl) ?_
                                obtain ⟨r_90, hc_91, hf⟩ := mm_bd1s hf
                                refine mm_callW (q0 := 87) (ci := 6) (w2 := (wd_X8 cI cL cS cH a v_hasImage v_now_rows v_now_cols v_now_high v_now_wide v_now_folds v_now_wrong v_now_more v_now_rowOf v_now_colOf v_now_below v_now_face v_now_worn v_now_last v_now_bend v_now_tall v_kept_rows v_kept_cols v_kept_high v_kept_wide v_kept_folds v_kept_wrong v_kept_more v_kept_rowOf v_kept_colOf v_kept_below v_kept_face v_kept_worn v_kept_last v_kept_bend v_kept_tall v_wearing_size v_wearing_stepCount v_wearing_draftCount v_wearing_place v_wearing_fault v_wearing_stacked v_wearing_tape v_wearing_steps v_wearing_draft v_wearing_stack v_planned_size v_planned_trial_rows v_planned_trial_cols v_planned_trial_high v_planned_trial_wide v_planned_trial_folds v_planned_trial_wrong v_planned_trial_more v_planned_trial_rowOf v_planned_trial_colOf v_planned_trial_below v_planned_trial_face v_planned_trial_worn v_planned_trial_last v_planned_trial_bend v_planned_trial_tall v_planned_lines v_planned_ways v_search_found v_search_wrong v_search_more v_search_folds v_search_wanted v_search_levels0_rows v_search_levels0_cols v_search_levels0_high v_search_levels0_wide v_search_levels0_folds v_search_levels0_wrong v_search_levels0_more v_search_levels0_rowOf v_search_levels0_colOf v_search_levels0_below v_search_levels0_face v_search_levels0_worn v_search_levels0_last v_search_levels0_bend v_search_levels0_tall v_search_levels1_rows v_search_levels1_cols v_search_levels1_high v_search_levels1_wide v_search_levels1_folds v_search_levels1_wrong v_search_levels1_more v_search_levels1_rowOf v_search_levels1_colOf v_search_levels1_below v_search_levels1_face v_search_levels1_worn v_search_levels1_last v_search_levels1_bend v_search_levels1_tall v_search_levels2_rows v_search_levels2_cols v_search_levels2_high v_search_levels2_wide v_search_levels2_folds v_search_levels2_wrong v_search_levels2_more v_search_levels2_rowOf v_search_levels2_colOf v_search_levels2_below v_search_levels2_face v_search_levels2_worn v_search_levels2_last v_search_levels2_bend v_search_levels2_tall v_search_levels3_rows v_search_levels3_cols v_search_levels3_high v_search_levels3_wide v_search_levels3_folds v_search_levels3_wrong v_search_levels3_more v_search_levels3_rowOf v_search_levels3_colOf v_search_levels3_below v_search_levels3_face v_search_levels3_worn v_search_levels3_last v_search_levels3_bend v_search_levels3_tall v_search_path v_search_best v_strip_list v_strip_found v_strip_at v_changes_value v_changes_done v_changes_size v_changes_before v_changes_after v_foldings_size v_foldings_ran v_foldings_number v_foldings_kinds v_foldings_trace v_shelves0_holds v_shelves0_body v_shelves0_sort v_shelves0_size v_shelves0_items v_shelves1_holds v_shelves1_body v_shelves1_sort v_shelves1_size v_shelves1_items v_shelves2_holds v_shelves2_body v_shelves2_sort v_shelves2_size v_shelves2_items v_shelves3_holds v_shelves3_body v_shelves3_sort v_shelves3_size v_shelves3_items v_shelves4_holds v_shelves4_body v_shelves4_sort v_shelves4_size v_shelves4_items v_shelves5_holds v_shelves5_body v_shelves5_sort v_shelves5_size v_shelves5_items)) (rest := []) C0 lk_X8_303 (ctX6_hasPart (a := (fun k => a (k + 87))) (d := d - 1) (by omega) hc_91) (by omega) rfl hl.1 rfl (mm_cat rfl) dX8_shift_95 hP hD hA hS rfl rfl [false, false, false, false, false, false, false, false, false, false, false, false, false, false, false, false, false, false, false, false, false, false, false, false, false, false, false, false, false, false, false, false, false, false, false, false, false, false, false, false, false, false, false, false, false, false, false, false, false, false, false, false, false, false, false, false, false, false, false, false, false, false, false, false, false, false, false, false, false, false, false, false, false, false, false, false, false, false, false, false, false, false, false, false, false, false, false, true, true, false, false, false, false, false, false, false, false, false, false] rfl rfl rfl rfl (fun H locs hP hD hS => ?_)
                                refine W.eq (g2 := F0 m 98 ls [.int (mm_b r_90)]) rfl ?_
                                refine lv_if_eq (tgt := 113) hx hb dX8_shift_98 (by decide) (fun c_92 => ?_) (fun c_92 => ?_)
                                · have hf := mm_ip hf (mm_b0 c_92)
                                  refine lv_bipush (v := -13) hx hb dX8_shift_113 (by decide) ?_
                                  apply mm_sub7 hf
                                  exact mm_iret C0 hP hD hS dX8_shift_115
                                · have hf := mm_in hf (mm_b1 c_92)
                                  refine lv_aload hx hb dX8_shift_101 (lv_at hl 0 rfl) ?_
                                  refine lv_iload hx hb dX8_shift_103 (lv_at hl 6 rfl) ?_
                                  refine lv_iload hx hb dX8_shift_105 (lv_at hl 7 rfl) ?_
                                  obtain ⟨r_93, hc_94, hf⟩ := mm_bd1s hf
                                  refine mm_callW (q0 := 97) (ci := 6) (w2 := (wd_X8 cI cL cS cH a v_hasImage v_now_rows v_now_cols v_now_high v_now_wide v_now_folds v_now_wrong v_now_more v_now_rowOf v_now_colOf v_now_below v_now_face v_now_worn v_now_last v_now_bend v_now_tall v_kept_rows v_kept_cols v_kept_high v_kept_wide v_kept_folds v_kept_wrong v_kept_more v_kept_rowOf v_kept_colOf v_kept_below v_kept_face v_kept_worn v_kept_last v_kept_bend v_kept_tall v_wearing_size v_wearing_stepCount v_wearing_draftCount v_wearing_place v_wearing_fault v_wearing_stacked v_wearing_tape v_wearing_steps v_wearing_draft v_wearing_stack v_planned_size v_planned_trial_rows v_planned_trial_cols v_planned_trial_high v_planned_trial_wide v_planned_trial_folds v_planned_trial_wrong v_planned_trial_more v_planned_trial_rowOf v_planned_trial_colOf v_planned_trial_below v_planned_trial_face v_planned_trial_worn v_planned_trial_last v_planned_trial_bend v_planned_trial_tall v_planned_lines v_planned_ways v_search_found v_search_wrong v_search_more v_search_folds v_search_wanted v_search_levels0_rows v_search_levels0_cols v_search_levels0_high v_search_levels0_wide v_search_levels0_folds v_search_levels0_wrong v_search_levels0_more v_search_levels0_rowOf v_search_levels0_colOf v_search_levels0_below v_search_levels0_face v_search_levels0_worn v_search_levels0_last v_search_levels0_bend v_search_levels0_tall v_search_levels1_rows v_search_levels1_cols v_search_levels1_high v_search_levels1_wide v_search_levels1_folds v_search_levels1_wrong v_search_levels1_more v_search_levels1_rowOf v_search_levels1_colOf v_search_levels1_below v_search_levels1_face v_search_levels1_worn v_search_levels1_last v_search_levels1_bend v_search_levels1_tall v_search_levels2_rows v_search_levels2_cols v_search_levels2_high v_search_levels2_wide v_search_levels2_folds v_search_levels2_wrong v_search_levels2_more v_search_levels2_rowOf v_search_levels2_colOf v_search_levels2_below v_search_levels2_face v_search_levels2_worn v_search_levels2_last v_search_levels2_bend v_search_levels2_tall v_search_levels3_rows v_search_levels3_cols v_search_levels3_high v_search_levels3_wide v_search_levels3_folds v_search_levels3_wrong v_search_levels3_more v_search_levels3_rowOf v_search_levels3_colOf v_search_levels3_below v_search_levels3_face v_search_levels3_worn v_search_levels3_last v_search_levels3_bend v_search_levels3_tall v_search_path v_search_best v_strip_list v_strip_found v_strip_at v_changes_value v_changes_done v_changes_size v_changes_before v_changes_after v_foldings_size v_foldings_ran v_foldings_number v_foldings_kinds v_foldings_trace v_shelves0_holds v_shelves0_body v_shelves0_sort v_shelves0_size v_shelves0_items v_shelves1_holds v_shelves1_body v_shelves1_sort v_shelves1_size v_shelves1_items v_shelves2_holds v_shelves2_body v_shelves2_sort v_shelves2_size v_shelves2_items v_shelves3_holds v_shelves3_body v_shelves3_sort v_shelves3_size v_shelves3_items v_shelves4_holds v_shelves4_body v_shelves4_sort v_shelves4_size v_shelves4_items v_shelves5_holds v_shelves5_body v_shelves5_sort v_shelves5_size v_shelves5_items)) (rest := []) C0 lk_X8_303 (ctX6_hasPart (a := (fun k => a (k + 97))) (d := d - 1) (by omega) hc_94) (by omega) rfl hl.1 rfl (mm_cat rfl) dX8_shift_107 hP hD hA hS rfl rfl [false, false, false, false, false, false, false, false, false, false, false, false, false, false, false, false, false, false, false, false, false, false, false, false, false, false, false, false, false, false, false, false, false, false, false, false, false, false, false, false, false, false, false, false, false, false, false, false, false, false, false, false, false, false, false, false, false, false, false, false, false, false, false, false, false, false, false, false, false, false, false, false, false, false, false, false, false, false, false, false, false, false, false, false, false, false, false, false, false, false, false, false, false, false, false, false, false, true, true] rfl rfl rfl rfl (fun H locs hP hD hS => ?_)
                                  refine W.eq (g2 := F0 m 110 ls [.int (mm_b r_93)]) rfl ?_
                                  refine lv_if_ne (tgt := 116) hx hb dX8_shift_110 (by decide) (fun c_95 => ?_) (fun c_95 => ?_)
                                  · have hf := mm_in hf (mm_b1 c_95)
                                    refine lv_aload hx hb dX8_shift_116 (lv_at hl 1 rfl) ?_
                                    refine mm_get C0 hP iw_X6 87 rfl rfl 4 (by decide) fl_X8_299 rfl dX8_shift_118 ?_
                                    refine lv_iload_n hx hb dX8_shift_121 rfl (lv_at hl 4 rfl) ?_
                                    refine lv_aload hx hb dX8_shift_122 (lv_at hl 0 rfl) ?_
                                    refine mm_get C0 hP iw_X6 97 rfl rfl 4 (by decide) fl_X8_299 rfl dX8_shift_124 ?_
                                    refine lv_iload hx hb dX8_shift_127 (lv_at hl 6 rfl) ?_
                                    refine lv_iload hx hb dX8_shift_129 (lv_at hl 7 rfl) ?_
                                    obtain ⟨h_96, hf⟩ := mm_cks hf
                                    refine mm_copyl C0 la_X8_306 hP hD hS 88 98 rfl rfl h_96 hl.1 (by omega) (mm_cat rfl) dX8_shift_131 (w2 := (wd_X8 cI cL cS cH a v_hasImage v_now_rows v_now_cols v_now_high v_now_wide v_now_folds v_now_wrong v_now_more v_now_rowOf v_now_colOf v_now_below v_now_face v_now_worn v_now_last v_now_bend v_now_tall v_kept_rows v_kept_cols v_kept_high v_kept_wide v_kept_folds v_kept_wrong v_kept_more v_kept_rowOf v_kept_colOf v_kept_below v_kept_face v_kept_worn v_kept_last v_kept_bend v_kept_tall v_wearing_size v_wearing_stepCount v_wearing_draftCount v_wearing_place v_wearing_fault v_wearing_stacked v_wearing_tape v_wearing_steps v_wearing_draft v_wearing_stack v_planned_size v_planned_trial_rows v_planned_trial_cols v_planned_trial_high v_planned_trial_wide v_planned_trial_folds v_planned_trial_wrong v_planned_trial_more v_planned_trial_rowOf v_planned_trial_colOf v_planned_trial_below v_planned_trial_face v_planned_trial_worn v_planned_trial_last v_planned_trial_bend v_planned_trial_tall v_planned_lines v_planned_ways v_search_found v_search_wrong v_search_more v_search_folds v_search_wanted v_search_levels0_rows v_search_levels0_cols v_search_levels0_high v_search_levels0_wide v_search_levels0_folds v_search_levels0_wrong v_search_levels0_more v_search_levels0_rowOf v_search_levels0_colOf v_search_levels0_below v_search_levels0_face v_search_levels0_worn v_search_levels0_last v_search_levels0_bend v_search_levels0_tall v_search_levels1_rows v_search_levels1_cols v_search_levels1_high v_search_levels1_wide v_search_levels1_folds v_search_levels1_wrong v_search_levels1_more v_search_levels1_rowOf v_search_levels1_colOf v_search_levels1_below v_search_levels1_face v_search_levels1_worn v_search_levels1_last v_search_levels1_bend v_search_levels1_tall v_search_levels2_rows v_search_levels2_cols v_search_levels2_high v_search_levels2_wide v_search_levels2_folds v_search_levels2_wrong v_search_levels2_more v_search_levels2_rowOf v_search_levels2_colOf v_search_levels2_below v_search_levels2_face v_search_levels2_worn v_search_levels2_last v_search_levels2_bend v_search_levels2_tall v_search_levels3_rows v_search_levels3_cols v_search_levels3_high v_search_levels3_wide v_search_levels3_folds v_search_levels3_wrong v_search_levels3_more v_search_levels3_rowOf v_search_levels3_colOf v_search_levels3_below v_search_levels3_face v_search_levels3_worn v_search_levels3_last v_search_levels3_bend v_search_levels3_tall v_search_path v_search_best v_strip_list v_strip_found v_strip_at v_changes_value v_changes_done v_changes_size v_changes_before v_changes_after v_foldings_size v_foldings_ran v_foldings_number v_foldings_kinds v_foldings_trace v_shelves0_holds v_shelves0_body v_shelves0_sort v_shelves0_size v_shelves0_items v_shelves1_holds v_shelves1_body v_shelves1_sort v_shelves1_size v_shelves1_items v_shelves2_holds v_shelves2_body v_shelves2_sort v_shelves2_size v_shelves2_items v_shelves3_holds v_shelves3_body v_shelves3_sort v_shelves3_size v_shelves3_items v_shelves4_holds v_shelves4_body v_shelves4_sort v_shelves4_size v_shelves4_items v_shelves5_holds v_shelves5_body v_shelves5_sort v_shelves5_size (mm_cp v_shelves0_items v_shelves5_items x2 x4 x5))) rfl (fun H locs hP hD hS => ?_)
                                    generalize el_97 : (mm_cp v_shelves0_items v_shelves5_items x2 x4 x5) = l_97 at hP hD
                                    have hf := mm_nms hf el_97.symm
                                    refine lv_iload hx hb dX8_shift_134 (lv_at hl 7 rfl) ?_
                                    apply mm_sub7 hf
                                    exact mm_iret C0 hP hD hS dX8_shift_136
                                  · have hf := mm_ip hf (mm_b0 c_95)
                                    refine lv_bipush (v := -13) hx hb dX8_shift_113 (by decide) ?_
                                    apply mm_sub7 hf
                                    exact mm_iret C0 hP hD hS dX8_shift_115
                            · have hf := mm_in hf c_88
                              refine lv_bipush (v := -12) hx hb dX8_shift_82 (by decide) ?_
                              apply mm_sub7 hf
                              exact mm_iret C0 hP hD hS dX8_shift_84
                      · have hf := mm_ip hf c_85
                        refine lv_bipush (v := -11) hx hb dX8_shift_48 (by decide) ?_
                        apply mm_sub7 hf
                        exact mm_iret C0 hP hD hS dX8_shift_50
                  · have hf := mm_in hf c_83
                    cases hf
      · have hf := mm_in hf c_7
        by_cases c_98 : x1 = (1 : Int32)
        · have hf := mm_ip hf c_98
          refine mm_aald 3 rfl C0 hP 86 rfl (b := a 89) (by rw [c_98]; rfl) (by rw [c_98]; rfl) dX8_shift_21 ?_
          refine lv_astore (lv' := [(6, .ref (a 89)), (0, .ref (a 0)), (1, .int x1), (2, .int x2), (3, .int x3), (4, .int x4), (5, .int x5)]) hx hb dX8_shift_22 hl (by decide) rfl (fun ls hl => ?_)
          refine lv_aload_n hx hb dX8_shift_24 rfl (lv_at hl 1 rfl) ?_
          refine mm_get C0 hP iw_X8 0 rfl rfl 8 (by decide) fl_X8_63 rfl dX8_shift_25 ?_
          refine lv_iload_n hx hb dX8_shift_28 rfl (lv_at hl 4 rfl) ?_
          by_cases c_99 : x3 = (0 : Int32)
          · have hf := mm_ip hf c_99
            refine mm_aald 3 rfl C0 hP 86 rfl (b := a 87) (by rw [c_99]; rfl) (by rw [c_99]; rfl) dX8_shift_29 ?_
            refine lv_astore (lv' := [(7, .ref (a 87)), (6, .ref (a 89)), (0, .ref (a 0)), (1, .int x1), (2, .int x2), (3, .int x3), (4, .int x4), (5, .int x5)]) hx hb dX8_shift_30 hl (by decide) rfl (fun ls hl => ?_)
            refine lv_aload hx hb dX8_shift_32 (lv_at hl 1 rfl) ?_
            refine mm_get C0 hP iw_X6 89 rfl rfl 0 (by decide) fl_X8_168 rfl dX8_shift_34 ?_
            refine lv_if_eq (tgt := 48) hx hb dX8_shift_37 (by decide) (fun c_100 => ?_) (fun c_100 => ?_)
            · have hf := mm_ip hf c_100
              refine lv_bipush (v := -11) hx hb dX8_shift_48 (by decide) ?_
              apply mm_sub7 hf
              exact mm_iret C0 hP hD hS dX8_shift_50
            · have hf := mm_in hf c_100
              refine lv_aload hx hb dX8_shift_40 (lv_at hl 0 rfl) ?_
              refine mm_get C0 hP iw_X6 87 rfl rfl 0 (by decide) fl_X8_168 rfl dX8_shift_42 ?_
              refine lv_if_ne (tgt := 51) hx hb dX8_shift_45 (by decide) (fun c_101 => ?_) (fun c_101 => ?_)
              · have hf := mm_in hf c_101
                refine lv_aload hx hb dX8_shift_51 (lv_at hl 1 rfl) ?_
                refine mm_get C0 hP iw_X6 89 rfl rfl 0 (by decide) fl_X8_168 rfl dX8_shift_53 ?_
                refine lv_iconst (v := 2) hx hb dX8_shift_56 (by decide) ?_
                refine lv_icmp_ne (tgt := 82) hx hb dX8_shift_57 (by decide) (fun c_102 => ?_) (fun c_102 => ?_)
                · have hf := mm_in hf c_102
                  refine lv_bipush (v := -12) hx hb dX8_shift_82 (by decide) ?_
                  apply mm_sub7 hf
                  exact mm_iret C0 hP hD hS dX8_shift_84
                · have hf := mm_ip hf c_102
                  refine lv_aload hx hb dX8_shift_60 (lv_at hl 0 rfl) ?_
                  refine mm_get C0 hP iw_X6 87 rfl rfl 0 (by decide) fl_X8_168 rfl dX8_shift_62 ?_
                  refine lv_iconst (v := 2) hx hb dX8_shift_65 (by decide) ?_
                  refine lv_icmp_ne (tgt := 82) hx hb dX8_shift_66 (by decide) (fun c_103 => ?_) (fun c_103 => ?_)
                  · have hf := mm_in hf c_103
                    refine lv_bipush (v := -12) hx hb dX8_shift_82 (by decide) ?_
                    apply mm_sub7 hf
                    exact mm_iret C0 hP hD hS dX8_shift_84
                  · have hf := mm_ip hf c_103
                    refine lv_aload hx hb dX8_shift_69 (lv_at hl 1 rfl) ?_
                    refine mm_get C0 hP iw_X6 89 rfl rfl 2 (by decide) fl_X8_171 rfl dX8_shift_71 ?_
                    refine lv_aload hx hb dX8_shift_74 (lv_at hl 0 rfl) ?_
                    refine mm_get C0 hP iw_X6 87 rfl rfl 2 (by decide) fl_X8_171 rfl dX8_shift_76 ?_
                    refine lv_icmp_eq (tgt := 85) hx hb dX8_shift_79 (by decide) (fun c_104 => ?_) (fun c_104 => ?_)
                    · have hf := mm_ip hf c_104
                      refine lv_iload hx hb dX8_shift_85 (lv_at hl 7 rfl) ?_
                      refine lv_if_lt (tgt := 113) hx hb dX8_shift_87 (by decide) (fun c_105 => ?_) (fun c_105 => ?_)
                      · have hf := mm_ip hf c_105
                        refine lv_bipush (v := -13) hx hb dX8_shift_113 (by decide) ?_
                        apply mm_sub7 hf
                        exact mm_iret C0 hP hD hS dX8_shift_115
                      · have hf := mm_in hf c_105
                        refine lv_aload hx hb dX8_shift_90 (lv_at hl 1 rfl) ?_
                        refine lv_iload_n hx hb dX8_shift_92 rfl (lv_at hl 4 rfl) ?_
                        refine lv_iload hx hb dX8_shift_93 (lv_at hl 7 rfl) ?_
                        obtain ⟨r_106, hc_107, hf⟩ := mm_bd1s hf
                        refine mm_callW (q0 := 89) (ci := 6) (w2 := (wd_X8 cI cL cS cH a v_hasImage v_now_rows v_now_cols v_now_high v_now_wide v_now_folds v_now_wrong v_now_more v_now_rowOf v_now_colOf v_now_below v_now_face v_now_worn v_now_last v_now_bend v_now_tall v_kept_rows v_kept_cols v_kept_high v_kept_wide v_kept_folds v_kept_wrong v_kept_more v_kept_rowOf v_kept_colOf v_kept_below v_kept_face v_kept_worn v_kept_last v_kept_bend v_kept_tall v_wearing_size v_wearing_stepCount v_wearing_draftCount v_wearing_place v_wearing_fault v_wearing_stacked v_wearing_tape v_wearing_steps v_wearing_draft v_wearing_stack v_planned_size v_planned_trial_rows v_planned_trial_cols v_planned_trial_high v_planned_trial_wide v_planned_trial_folds v_planned_trial_wrong v_planned_trial_more v_planned_trial_rowOf v_planned_trial_colOf v_planned_trial_below v_planned_trial_face v_planned_trial_worn v_planned_trial_last v_planned_trial_bend v_planned_trial_tall v_planned_lines v_planned_ways v_search_found v_search_wrong v_search_more v_search_folds v_search_wanted v_search_levels0_rows v_search_levels0_cols v_search_levels0_high v_search_levels0_wide v_search_levels0_folds v_search_levels0_wrong v_search_levels0_more v_search_levels0_rowOf v_search_levels0_colOf v_search_levels0_below v_search_levels0_face v_search_levels0_worn v_search_levels0_last v_search_levels0_bend v_search_levels0_tall v_search_levels1_rows v_search_levels1_cols v_search_levels1_high v_search_levels1_wide v_search_levels1_folds v_search_levels1_wrong v_search_levels1_more v_search_levels1_rowOf v_search_levels1_colOf v_search_levels1_below v_search_levels1_face v_search_levels1_worn v_search_levels1_last v_search_levels1_bend v_search_levels1_tall v_search_levels2_rows v_search_levels2_cols v_search_levels2_high v_search_levels2_wide v_search_levels2_folds v_search_levels2_wrong v_search_levels2_more v_search_levels2_rowOf v_search_levels2_colOf v_search_levels2_below v_search_levels2_face v_search_levels2_worn v_search_levels2_last v_search_levels2_bend v_search_levels2_tall v_search_levels3_rows v_search_levels3_cols v_search_levels3_high v_search_levels3_wide v_search_levels3_folds v_search_levels3_wrong v_search_levels3_more v_search_levels3_rowOf v_search_levels3_colOf v_search_levels3_below v_search_levels3_face v_search_levels3_worn v_search_levels3_last v_search_levels3_bend v_search_levels3_tall v_search_path v_search_best v_strip_list v_strip_found v_strip_at v_changes_value v_changes_done v_changes_size v_changes_before v_changes_after v_foldings_size v_foldings_ran v_foldings_number v_foldings_kinds v_foldings_trace v_shelves0_holds v_shelves0_body v_shelves0_sort v_shelves0_size v_shelves0_items v_shelves1_holds v_shelves1_body v_shelves1_sort v_shelves1_size v_shelves1_items v_shelves2_holds v_shelves2_body v_shelves2_sort v_shelves2_size v_shelves2_items v_shelves3_holds v_shelves3_body v_shelves3_sort v_shelves3_size v_shelves3_items v_shelves4_holds v_shelves4_body v_shelves4_sort v_shelves4_size v_shelves4_items v_shelves5_holds v_shelves5_body v_shelves5_sort v_shelves5_size v_shelves5_items)) (rest := []) C0 lk_X8_303 (ctX6_hasPart (a := (fun k => a (k + 89))) (d := d - 1) (by omega) hc_107) (by omega) rfl hl.1 rfl (mm_cat rfl) dX8_shift_95 hP hD hA hS rfl rfl [false, false, false, false, false, false, false, false, false, false, false, false, false, false, false, false, false, false, false, false, false, false, false, false, false, false, false, false, false, false, false, false, false, false, false, false, false, false, false, false, false, false, false, false, false, false, false, false, false, false, false, false, false, false, false, false, false, false, false, false, false, false, false, false, false, false, false, false, false, false, false, false, false, false, false, false, false, false, false, false, false, false, false, false, false, false, false, false, false, true, true, false, false, false, false, false, false, false, false] rfl rfl rfl rfl (fun H locs hP hD hS => ?_)
                        refine W.eq (g2 := F0 m 98 ls [.int (mm_b r_106)]) rfl ?_
                        refine lv_if_eq (tgt := 113) hx hb dX8_shift_98 (by decide) (fun c_108 => ?_) (fun c_108 => ?_)
                        · have hf := mm_ip hf (mm_b0 c_108)
                          refine lv_bipush (v := -13) hx hb dX8_shift_113 (by decide) ?_
                          apply mm_sub7 hf
                          exact mm_iret C0 hP hD hS dX8_shift_115
                        · have hf := mm_in hf (mm_b1 c_108)
                          refine lv_aload hx hb dX8_shift_101 (lv_at hl 0 rfl) ?_
                          refine lv_iload hx hb dX8_shift_103 (lv_at hl 6 rfl) ?_
                          refine lv_iload hx hb dX8_shift_105 (lv_at hl 7 rfl) ?_
                          obtain ⟨r_109, hc_110, hf⟩ := mm_bd1s hf
                          refine mm_callW (q0 := 87) (ci := 6) (w2 := (wd_X8 cI cL cS cH a v_hasImage v_now_rows v_now_cols v_now_high v_now_wide v_now_folds v_now_wrong v_now_more v_now_rowOf v_now_colOf v_now_below v_now_face v_now_worn v_now_last v_now_bend v_now_tall v_kept_rows v_kept_cols v_kept_high v_kept_wide v_kept_folds v_kept_wrong v_kept_more v_kept_rowOf v_kept_colOf v_kept_below v_kept_face v_kept_worn v_kept_last v_kept_bend v_kept_tall v_wearing_size v_wearing_stepCount v_wearing_draftCount v_wearing_place v_wearing_fault v_wearing_stacked v_wearing_tape v_wearing_steps v_wearing_draft v_wearing_stack v_planned_size v_planned_trial_rows v_planned_trial_cols v_planned_trial_high v_planned_trial_wide v_planned_trial_folds v_planned_trial_wrong v_planned_trial_more v_planned_trial_rowOf v_planned_trial_colOf v_planned_trial_below v_planned_trial_face v_planned_trial_worn v_planned_trial_last v_planned_trial_bend v_planned_trial_tall v_planned_lines v_planned_ways v_search_found v_search_wrong v_search_more v_search_folds v_search_wanted v_search_levels0_rows v_search_levels0_cols v_search_levels0_high v_search_levels0_wide v_search_levels0_folds v_search_levels0_wrong v_search_levels0_more v_search_levels0_rowOf v_search_levels0_colOf v_search_levels0_below v_search_levels0_face v_search_levels0_worn v_search_levels0_last v_search_levels0_bend v_search_levels0_tall v_search_levels1_rows v_search_levels1_cols v_search_levels1_high v_search_levels1_wide v_search_levels1_folds v_search_levels1_wrong v_search_levels1_more v_search_levels1_rowOf v_search_levels1_colOf v_search_levels1_below v_search_levels1_face v_search_levels1_worn v_search_levels1_last v_search_levels1_bend v_search_levels1_tall v_search_levels2_rows v_search_levels2_cols v_search_levels2_high v_search_levels2_wide v_search_levels2_folds v_search_levels2_wrong v_search_levels2_more v_search_levels2_rowOf v_search_levels2_colOf v_search_levels2_below v_search_levels2_face v_search_levels2_worn v_search_levels2_last v_search_levels2_bend v_search_levels2_tall v_search_levels3_rows v_search_levels3_cols v_search_levels3_high v_search_levels3_wide v_search_levels3_folds v_search_levels3_wrong v_search_levels3_more v_search_levels3_rowOf v_search_levels3_colOf v_search_levels3_below v_search_levels3_face v_search_levels3_worn v_search_levels3_last v_search_levels3_bend v_search_levels3_tall v_search_path v_search_best v_strip_list v_strip_found v_strip_at v_changes_value v_changes_done v_changes_size v_changes_before v_changes_after v_foldings_size v_foldings_ran v_foldings_number v_foldings_kinds v_foldings_trace v_shelves0_holds v_shelves0_body v_shelves0_sort v_shelves0_size v_shelves0_items v_shelves1_holds v_shelves1_body v_shelves1_sort v_shelves1_size v_shelves1_items v_shelves2_holds v_shelves2_body v_shelves2_sort v_shelves2_size v_shelves2_items v_shelves3_holds v_shelves3_body v_shelves3_sort v_shelves3_size v_shelves3_items v_shelves4_holds v_shelves4_body v_shelves4_sort v_shelves4_size v_shelves4_items v_shelves5_holds v_shelves5_body v_shelves5_sort v_shelves5_size v_shelves5_items)) (rest := []) C0 lk_X8_303 (ctX6_hasPart (a := (fun k => a (k + 87))) (d := d - 1) (by omega) hc_110) (by omega) rfl hl.1 rfl (mm_cat rfl) dX8_shift_107 hP hD hA hS rfl rfl [false, false, false, false, false, false, false, false, false, false, false, false, false, false, false, false, false, false, false, false, false, false, false, false, false, false, false, false, false, false, false, false, false, false, false, false, false, false, false, false, false, false, false, false, false, false, false, false, false, false, false, false, false, false, false, false, false, false, false, false, false, false, false, false, false, false, false, false, false, false, false, false, false, false, false, false, false, false, false, false, false, false, false, false, false, false, false, true, true, false, false, false, false, false, false, false, false, false, false] rfl rfl rfl rfl (fun H locs hP hD hS => ?_)
                          refine W.eq (g2 := F0 m 110 ls [.int (mm_b r_109)]) rfl ?_
                          refine lv_if_ne (tgt := 116) hx hb dX8_shift_110 (by decide) (fun c_111 => ?_) (fun c_111 => ?_)
                          · have hf := mm_in hf (mm_b1 c_111)
                            refine lv_aload hx hb dX8_shift_116 (lv_at hl 1 rfl) ?_
                            refine mm_get C0 hP iw_X6 89 rfl rfl 4 (by decide) fl_X8_299 rfl dX8_shift_118 ?_
                            refine lv_iload_n hx hb dX8_shift_121 rfl (lv_at hl 4 rfl) ?_
                            refine lv_aload hx hb dX8_shift_122 (lv_at hl 0 rfl) ?_
                            refine mm_get C0 hP iw_X6 87 rfl rfl 4 (by decide) fl_X8_299 rfl dX8_shift_124 ?_
                            refine lv_iload hx hb dX8_shift_127 (lv_at hl 6 rfl) ?_
                            refine lv_iload hx hb dX8_shift_129 (lv_at hl 7 rfl) ?_
                            obtain ⟨h_112, hf⟩ := mm_cks hf
                            refine mm_copyl C0 la_X8_306 hP hD hS 90 88 rfl rfl h_112 hl.1 (by omega) (mm_cat rfl) dX8_shift_131 (w2 := (wd_X8 cI cL cS cH a v_hasImage v_now_rows v_now_cols v_now_high v_now_wide v_now_folds v_now_wrong v_now_more v_now_rowOf v_now_colOf v_now_below v_now_face v_now_worn v_now_last v_now_bend v_now_tall v_kept_rows v_kept_cols v_kept_high v_kept_wide v_kept_folds v_kept_wrong v_kept_more v_kept_rowOf v_kept_colOf v_kept_below v_kept_face v_kept_worn v_kept_last v_kept_bend v_kept_tall v_wearing_size v_wearing_stepCount v_wearing_draftCount v_wearing_place v_wearing_fault v_wearing_stacked v_wearing_tape v_wearing_steps v_wearing_draft v_wearing_stack v_planned_size v_planned_trial_rows v_planned_trial_cols v_planned_trial_high v_planned_trial_wide v_planned_trial_folds v_planned_trial_wrong v_planned_trial_more v_planned_trial_rowOf v_planned_trial_colOf v_planned_trial_below v_planned_trial_face v_planned_trial_worn v_planned_trial_last v_planned_trial_bend v_planned_trial_tall v_planned_lines v_planned_ways v_search_found v_search_wrong v_search_more v_search_folds v_search_wanted v_search_levels0_rows v_search_levels0_cols v_search_levels0_high v_search_levels0_wide v_search_levels0_folds v_search_levels0_wrong v_search_levels0_more v_search_levels0_rowOf v_search_levels0_colOf v_search_levels0_below v_search_levels0_face v_search_levels0_worn v_search_levels0_last v_search_levels0_bend v_search_levels0_tall v_search_levels1_rows v_search_levels1_cols v_search_levels1_high v_search_levels1_wide v_search_levels1_folds v_search_levels1_wrong v_search_levels1_more v_search_levels1_rowOf v_search_levels1_colOf v_search_levels1_below v_search_levels1_face v_search_levels1_worn v_search_levels1_last v_search_levels1_bend v_search_levels1_tall v_search_levels2_rows v_search_levels2_cols v_search_levels2_high v_search_levels2_wide v_search_levels2_folds v_search_levels2_wrong v_search_levels2_more v_search_levels2_rowOf v_search_levels2_colOf v_search_levels2_below v_search_levels2_face v_search_levels2_worn v_search_levels2_last v_search_levels2_bend v_search_levels2_tall v_search_levels3_rows v_search_levels3_cols v_search_levels3_high v_search_levels3_wide v_search_levels3_folds v_search_levels3_wrong v_search_levels3_more v_search_levels3_rowOf v_search_levels3_colOf v_search_levels3_below v_search_levels3_face v_search_levels3_worn v_search_levels3_last v_search_levels3_bend v_search_levels3_tall v_search_path v_search_best v_strip_list v_strip_found v_strip_at v_changes_value v_changes_done v_changes_size v_changes_before v_changes_after v_foldings_size v_foldings_ran v_foldings_number v_foldings_kinds v_foldings_trace v_shelves0_holds v_shelves0_body v_shelves0_sort v_shelves0_size (mm_cp v_shelves1_items v_shelves0_items x2 x4 x5) v_shelves1_holds v_shelves1_body v_shelves1_sort v_shelves1_size v_shelves1_items v_shelves2_holds v_shelves2_body v_shelves2_sort v_shelves2_size v_shelves2_items v_shelves3_holds v_shelves3_body v_shelves3_sort v_shelves3_size v_shelves3_items v_shelves4_holds v_shelves4_body v_shelves4_sort v_shelves4_size v_shelves4_items v_shelves5_holds v_shelves5_body v_shelves5_sort v_shelves5_size v_shelves5_items)) rfl (fun H locs hP hD hS => ?_)
                            generalize el_113 : (mm_cp v_shelves1_items v_shelves0_items x2 x4 x5) = l_113 at hP hD
                            have hf := mm_nms hf el_113.symm
                            refine lv_iload hx hb dX8_shift_134 (lv_at hl 7 rfl) ?_
                            apply mm_sub7 hf
                            exact mm_iret C0 hP hD hS dX8_shift_136
                          · have hf := mm_ip hf (mm_b0 c_111)
                            refine lv_bipush (v := -13) hx hb dX8_shift_113 (by decide) ?_
                            apply mm_sub7 hf
                            exact mm_iret C0 hP hD hS dX8_shift_115
                    · have hf := mm_in hf c_104
                      refine lv_bipush (v := -12) hx hb dX8_shift_82 (by decide) ?_
                      apply mm_sub7 hf
                      exact mm_iret C0 hP hD hS dX8_shift_84
              · have hf := mm_ip hf c_101
                refine lv_bipush (v := -11) hx hb dX8_shift_48 (by decide) ?_
                apply mm_sub7 hf
                exact mm_iret C0 hP hD hS dX8_shift_50
          · have hf := mm_in hf c_99
            by_cases c_114 : x3 = (1 : Int32)
            · have hf := mm_ip hf c_114
              refine mm_aald 3 rfl C0 hP 86 rfl (b := a 89) (by rw [c_114]; rfl) (by rw [c_114]; rfl) dX8_shift_29 ?_
              refine lv_astore (lv' := [(7, .ref (a 89)), (6, .ref (a 89)), (0, .ref (a 0)), (1, .int x1), (2, .int x2), (3, .int x3), (4, .int x4), (5, .int x5)]) hx hb dX8_shift_30 hl (by decide) rfl (fun ls hl => ?_)
              refine lv_aload hx hb dX8_shift_32 (lv_at hl 1 rfl) ?_
              refine mm_get C0 hP iw_X6 89 rfl rfl 0 (by decide) fl_X8_168 rfl dX8_shift_34 ?_
              refine lv_if_eq (tgt := 48) hx hb dX8_shift_37 (by decide) (fun c_115 => ?_) (fun c_115 => ?_)
              · have hf := mm_ip hf c_115
                refine lv_bipush (v := -11) hx hb dX8_shift_48 (by decide) ?_
                apply mm_sub7 hf
                exact mm_iret C0 hP hD hS dX8_shift_50
              · have hf := mm_in hf c_115
                refine lv_aload hx hb dX8_shift_40 (lv_at hl 0 rfl) ?_
                refine mm_get C0 hP iw_X6 89 rfl rfl 0 (by decide) fl_X8_168 rfl dX8_shift_42 ?_
                refine lv_if_ne (tgt := 51) hx hb dX8_shift_45 (by decide) (fun c_116 => ?_) (fun c_116 => ?_)
                · have hf := mm_in hf c_116
                  refine lv_aload hx hb dX8_shift_51 (lv_at hl 1 rfl) ?_
                  refine mm_get C0 hP iw_X6 89 rfl rfl 0 (by decide) fl_X8_168 rfl dX8_shift_53 ?_
                  refine lv_iconst (v := 2) hx hb dX8_shift_56 (by decide) ?_
                  refine lv_icmp_ne (tgt := 82) hx hb dX8_shift_57 (by decide) (fun c_117 => ?_) (fun c_117 => ?_)
                  · have hf := mm_in hf c_117
                    refine lv_bipush (v := -12) hx hb dX8_shift_82 (by decide) ?_
                    apply mm_sub7 hf
                    exact mm_iret C0 hP hD hS dX8_shift_84
                  · have hf := mm_ip hf c_117
                    refine lv_aload hx hb dX8_shift_60 (lv_at hl 0 rfl) ?_
                    refine mm_get C0 hP iw_X6 89 rfl rfl 0 (by decide) fl_X8_168 rfl dX8_shift_62 ?_
                    refine lv_iconst (v := 2) hx hb dX8_shift_65 (by decide) ?_
                    refine lv_icmp_ne (tgt := 82) hx hb dX8_shift_66 (by decide) (fun c_118 => ?_) (fun c_118 => ?_)
                    · have hf := mm_in hf c_118
                      refine lv_bipush (v := -12) hx hb dX8_shift_82 (by decide) ?_
                      apply mm_sub7 hf
                      exact mm_iret C0 hP hD hS dX8_shift_84
                    · have hf := mm_ip hf c_118
                      refine lv_aload hx hb dX8_shift_69 (lv_at hl 1 rfl) ?_
                      refine mm_get C0 hP iw_X6 89 rfl rfl 2 (by decide) fl_X8_171 rfl dX8_shift_71 ?_
                      refine lv_aload hx hb dX8_shift_74 (lv_at hl 0 rfl) ?_
                      refine mm_get C0 hP iw_X6 89 rfl rfl 2 (by decide) fl_X8_171 rfl dX8_shift_76 ?_
                      refine lv_icmp_eq (tgt := 85) hx hb dX8_shift_79 (by decide) (fun c_119 => ?_) (fun c_119 => ?_)
                      · have hf := mm_ip hf c_119
                        refine lv_iload hx hb dX8_shift_85 (lv_at hl 7 rfl) ?_
                        refine lv_if_lt (tgt := 113) hx hb dX8_shift_87 (by decide) (fun c_120 => ?_) (fun c_120 => ?_)
                        · have hf := mm_ip hf c_120
                          refine lv_bipush (v := -13) hx hb dX8_shift_113 (by decide) ?_
                          apply mm_sub7 hf
                          exact mm_iret C0 hP hD hS dX8_shift_115
                        · have hf := mm_in hf c_120
                          refine lv_aload hx hb dX8_shift_90 (lv_at hl 1 rfl) ?_
                          refine lv_iload_n hx hb dX8_shift_92 rfl (lv_at hl 4 rfl) ?_
                          refine lv_iload hx hb dX8_shift_93 (lv_at hl 7 rfl) ?_
                          obtain ⟨r_121, hc_122, hf⟩ := mm_bd1s hf
                          refine mm_callW (q0 := 89) (ci := 6) (w2 := (wd_X8 cI cL cS cH a v_hasImage v_now_rows v_now_cols v_now_high v_now_wide v_now_folds v_now_wrong v_now_more v_now_rowOf v_now_colOf v_now_below v_now_face v_now_worn v_now_last v_now_bend v_now_tall v_kept_rows v_kept_cols v_kept_high v_kept_wide v_kept_folds v_kept_wrong v_kept_more v_kept_rowOf v_kept_colOf v_kept_below v_kept_face v_kept_worn v_kept_last v_kept_bend v_kept_tall v_wearing_size v_wearing_stepCount v_wearing_draftCount v_wearing_place v_wearing_fault v_wearing_stacked v_wearing_tape v_wearing_steps v_wearing_draft v_wearing_stack v_planned_size v_planned_trial_rows v_planned_trial_cols v_planned_trial_high v_planned_trial_wide v_planned_trial_folds v_planned_trial_wrong v_planned_trial_more v_planned_trial_rowOf v_planned_trial_colOf v_planned_trial_below v_planned_trial_face v_planned_trial_worn v_planned_trial_last v_planned_trial_bend v_planned_trial_tall v_planned_lines v_planned_ways v_search_found v_search_wrong v_search_more v_search_folds v_search_wanted v_search_levels0_rows v_search_levels0_cols v_search_levels0_high v_search_levels0_wide v_search_levels0_folds v_search_levels0_wrong v_search_levels0_more v_search_levels0_rowOf v_search_levels0_colOf v_search_levels0_below v_search_levels0_face v_search_levels0_worn v_search_levels0_last v_search_levels0_bend v_search_levels0_tall v_search_levels1_rows v_search_levels1_cols v_search_levels1_high v_search_levels1_wide v_search_levels1_folds v_search_levels1_wrong v_search_levels1_more v_search_levels1_rowOf v_search_levels1_colOf v_search_levels1_below v_search_levels1_face v_search_levels1_worn v_search_levels1_last v_search_levels1_bend v_search_levels1_tall v_search_levels2_rows v_search_levels2_cols v_search_levels2_high v_search_levels2_wide v_search_levels2_folds v_search_levels2_wrong v_search_levels2_more v_search_levels2_rowOf v_search_levels2_colOf v_search_levels2_below v_search_levels2_face v_search_levels2_worn v_search_levels2_last v_search_levels2_bend v_search_levels2_tall v_search_levels3_rows v_search_levels3_cols v_search_levels3_high v_search_levels3_wide v_search_levels3_folds v_search_levels3_wrong v_search_levels3_more v_search_levels3_rowOf v_search_levels3_colOf v_search_levels3_below v_search_levels3_face v_search_levels3_worn v_search_levels3_last v_search_levels3_bend v_search_levels3_tall v_search_path v_search_best v_strip_list v_strip_found v_strip_at v_changes_value v_changes_done v_changes_size v_changes_before v_changes_after v_foldings_size v_foldings_ran v_foldings_number v_foldings_kinds v_foldings_trace v_shelves0_holds v_shelves0_body v_shelves0_sort v_shelves0_size v_shelves0_items v_shelves1_holds v_shelves1_body v_shelves1_sort v_shelves1_size v_shelves1_items v_shelves2_holds v_shelves2_body v_shelves2_sort v_shelves2_size v_shelves2_items v_shelves3_holds v_shelves3_body v_shelves3_sort v_shelves3_size v_shelves3_items v_shelves4_holds v_shelves4_body v_shelves4_sort v_shelves4_size v_shelves4_items v_shelves5_holds v_shelves5_body v_shelves5_sort v_shelves5_size v_shelves5_items)) (rest := []) C0 lk_X8_303 (ctX6_hasPart (a := (fun k => a (k + 89))) (d := d - 1) (by omega) hc_122) (by omega) rfl hl.1 rfl (mm_cat rfl) dX8_shift_95 hP hD hA hS rfl rfl [false, false, false, false, false, false, false, false, false, false, false, false, false, false, false, false, false, false, false, false, false, false, false, false, false, false, false, false, false, false, false, false, false, false, false, false, false, false, false, false, false, false, false, false, false, false, false, false, false, false, false, false, false, false, false, false, false, false, false, false, false, false, false, false, false, false, false, false, false, false, false, false, false, false, false, false, false, false, false, false, false, false, false, false, false, false, false, false, false, true, true, false, false, false, false, false, false, false, false] rfl rfl rfl rfl (fun H locs hP hD hS => ?_)
                          refine W.eq (g2 := F0 m 98 ls [.int (mm_b r_121)]) rfl ?_
                          refine lv_if_eq (tgt := 113) hx hb dX8_shift_98 (by decide) (fun c_123 => ?_) (fun c_123 => ?_)
                          · have hf := mm_ip hf (mm_b0 c_123)
                            refine lv_bipush (v := -13) hx hb dX8_shift_113 (by decide) ?_
                            apply mm_sub7 hf
                            exact mm_iret C0 hP hD hS dX8_shift_115
                          · have hf := mm_in hf (mm_b1 c_123)
                            refine lv_aload hx hb dX8_shift_101 (lv_at hl 0 rfl) ?_
                            refine lv_iload hx hb dX8_shift_103 (lv_at hl 6 rfl) ?_
                            refine lv_iload hx hb dX8_shift_105 (lv_at hl 7 rfl) ?_
                            obtain ⟨r_124, hc_125, hf⟩ := mm_bd1s hf
                            refine mm_callW (q0 := 89) (ci := 6) (w2 := (wd_X8 cI cL cS cH a v_hasImage v_now_rows v_now_cols v_now_high v_now_wide v_now_folds v_now_wrong v_now_more v_now_rowOf v_now_colOf v_now_below v_now_face v_now_worn v_now_last v_now_bend v_now_tall v_kept_rows v_kept_cols v_kept_high v_kept_wide v_kept_folds v_kept_wrong v_kept_more v_kept_rowOf v_kept_colOf v_kept_below v_kept_face v_kept_worn v_kept_last v_kept_bend v_kept_tall v_wearing_size v_wearing_stepCount v_wearing_draftCount v_wearing_place v_wearing_fault v_wearing_stacked v_wearing_tape v_wearing_steps v_wearing_draft v_wearing_stack v_planned_size v_planned_trial_rows v_planned_trial_cols v_planned_trial_high v_planned_trial_wide v_planned_trial_folds v_planned_trial_wrong v_planned_trial_more v_planned_trial_rowOf v_planned_trial_colOf v_planned_trial_below v_planned_trial_face v_planned_trial_worn v_planned_trial_last v_planned_trial_bend v_planned_trial_tall v_planned_lines v_planned_ways v_search_found v_search_wrong v_search_more v_search_folds v_search_wanted v_search_levels0_rows v_search_levels0_cols v_search_levels0_high v_search_levels0_wide v_search_levels0_folds v_search_levels0_wrong v_search_levels0_more v_search_levels0_rowOf v_search_levels0_colOf v_search_levels0_below v_search_levels0_face v_search_levels0_worn v_search_levels0_last v_search_levels0_bend v_search_levels0_tall v_search_levels1_rows v_search_levels1_cols v_search_levels1_high v_search_levels1_wide v_search_levels1_folds v_search_levels1_wrong v_search_levels1_more v_search_levels1_rowOf v_search_levels1_colOf v_search_levels1_below v_search_levels1_face v_search_levels1_worn v_search_levels1_last v_search_levels1_bend v_search_levels1_tall v_search_levels2_rows v_search_levels2_cols v_search_levels2_high v_search_levels2_wide v_search_levels2_folds v_search_levels2_wrong v_search_levels2_more v_search_levels2_rowOf v_search_levels2_colOf v_search_levels2_below v_search_levels2_face v_search_levels2_worn v_search_levels2_last v_search_levels2_bend v_search_levels2_tall v_search_levels3_rows v_search_levels3_cols v_search_levels3_high v_search_levels3_wide v_search_levels3_folds v_search_levels3_wrong v_search_levels3_more v_search_levels3_rowOf v_search_levels3_colOf v_search_levels3_below v_search_levels3_face v_search_levels3_worn v_search_levels3_last v_search_levels3_bend v_search_levels3_tall v_search_path v_search_best v_strip_list v_strip_found v_strip_at v_changes_value v_changes_done v_changes_size v_changes_before v_changes_after v_foldings_size v_foldings_ran v_foldings_number v_foldings_kinds v_foldings_trace v_shelves0_holds v_shelves0_body v_shelves0_sort v_shelves0_size v_shelves0_items v_shelves1_holds v_shelves1_body v_shelves1_sort v_shelves1_size v_shelves1_items v_shelves2_holds v_shelves2_body v_shelves2_sort v_shelves2_size v_shelves2_items v_shelves3_holds v_shelves3_body v_shelves3_sort v_shelves3_size v_shelves3_items v_shelves4_holds v_shelves4_body v_shelves4_sort v_shelves4_size v_shelves4_items v_shelves5_holds v_shelves5_body v_shelves5_sort v_shelves5_size v_shelves5_items)) (rest := []) C0 lk_X8_303 (ctX6_hasPart (a := (fun k => a (k + 89))) (d := d - 1) (by omega) hc_125) (by omega) rfl hl.1 rfl (mm_cat rfl) dX8_shift_107 hP hD hA hS rfl rfl [false, false, false, false, false, false, false, false, false, false, false, false, false, false, false, false, false, false, false, false, false, false, false, false, false, false, false, false, false, false, false, false, false, false, false, false, false, false, false, false, false, false, false, false, false, false, false, false, false, false, false, false, false, false, false, false, false, false, false, false, false, false, false, false, false, false, false, false, false, false, false, false, false, false, false, false, false, false, false, false, false, false, false, false, false, false, false, false, false, true, true, false, false, false, false, false, false, false, false] rfl rfl rfl rfl (fun H locs hP hD hS => ?_)
                            refine W.eq (g2 := F0 m 110 ls [.int (mm_b r_124)]) rfl ?_
                            refine lv_if_ne (tgt := 116) hx hb dX8_shift_110 (by decide) (fun c_126 => ?_) (fun c_126 => ?_)
                            · have hf := mm_in hf (mm_b1 c_126)
                              refine lv_aload hx hb dX8_shift_116 (lv_at hl 1 rfl) ?_
                              refine mm_get C0 hP iw_X6 89 rfl rfl 4 (by decide) fl_X8_299 rfl dX8_shift_118 ?_
                              refine lv_iload_n hx hb dX8_shift_121 rfl (lv_at hl 4 rfl) ?_
                              refine lv_aload hx hb dX8_shift_122 (lv_at hl 0 rfl) ?_
                              refine mm_get C0 hP iw_X6 89 rfl rfl 4 (by decide) fl_X8_299 rfl dX8_shift_124 ?_
                              refine lv_iload hx hb dX8_shift_127 (lv_at hl 6 rfl) ?_
                              refine lv_iload hx hb dX8_shift_129 (lv_at hl 7 rfl) ?_
                              obtain ⟨h_127, hf⟩ := mm_cks hf
                              refine mm_copyl C0 la_X8_306 hP hD hS 90 90 rfl rfl h_127 hl.1 (by omega) (mm_cat rfl) dX8_shift_131 (w2 := (wd_X8 cI cL cS cH a v_hasImage v_now_rows v_now_cols v_now_high v_now_wide v_now_folds v_now_wrong v_now_more v_now_rowOf v_now_colOf v_now_below v_now_face v_now_worn v_now_last v_now_bend v_now_tall v_kept_rows v_kept_cols v_kept_high v_kept_wide v_kept_folds v_kept_wrong v_kept_more v_kept_rowOf v_kept_colOf v_kept_below v_kept_face v_kept_worn v_kept_last v_kept_bend v_kept_tall v_wearing_size v_wearing_stepCount v_wearing_draftCount v_wearing_place v_wearing_fault v_wearing_stacked v_wearing_tape v_wearing_steps v_wearing_draft v_wearing_stack v_planned_size v_planned_trial_rows v_planned_trial_cols v_planned_trial_high v_planned_trial_wide v_planned_trial_folds v_planned_trial_wrong v_planned_trial_more v_planned_trial_rowOf v_planned_trial_colOf v_planned_trial_below v_planned_trial_face v_planned_trial_worn v_planned_trial_last v_planned_trial_bend v_planned_trial_tall v_planned_lines v_planned_ways v_search_found v_search_wrong v_search_more v_search_folds v_search_wanted v_search_levels0_rows v_search_levels0_cols v_search_levels0_high v_search_levels0_wide v_search_levels0_folds v_search_levels0_wrong v_search_levels0_more v_search_levels0_rowOf v_search_levels0_colOf v_search_levels0_below v_search_levels0_face v_search_levels0_worn v_search_levels0_last v_search_levels0_bend v_search_levels0_tall v_search_levels1_rows v_search_levels1_cols v_search_levels1_high v_search_levels1_wide v_search_levels1_folds v_search_levels1_wrong v_search_levels1_more v_search_levels1_rowOf v_search_levels1_colOf v_search_levels1_below v_search_levels1_face v_search_levels1_worn v_search_levels1_last v_search_levels1_bend v_search_levels1_tall v_search_levels2_rows v_search_levels2_cols v_search_levels2_high v_search_levels2_wide v_search_levels2_folds v_search_levels2_wrong v_search_levels2_more v_search_levels2_rowOf v_search_levels2_colOf v_search_levels2_below v_search_levels2_face v_search_levels2_worn v_search_levels2_last v_search_levels2_bend v_search_levels2_tall v_search_levels3_rows v_search_levels3_cols v_search_levels3_high v_search_levels3_wide v_search_levels3_folds v_search_levels3_wrong v_search_levels3_more v_search_levels3_rowOf v_search_levels3_colOf v_search_levels3_below v_search_levels3_face v_search_levels3_worn v_search_levels3_last v_search_levels3_bend v_search_levels3_tall v_search_path v_search_best v_strip_list v_strip_found v_strip_at v_changes_value v_changes_done v_changes_size v_changes_before v_changes_after v_foldings_size v_foldings_ran v_foldings_number v_foldings_kinds v_foldings_trace v_shelves0_holds v_shelves0_body v_shelves0_sort v_shelves0_size v_shelves0_items v_shelves1_holds v_shelves1_body v_shelves1_sort v_shelves1_size (mm_cp v_shelves1_items v_shelves1_items x2 x4 x5) v_shelves2_holds v_shelves2_body v_shelves2_sort v_shelves2_size v_shelves2_items v_shelves3_holds v_shelves3_body v_shelves3_sort v_shelves3_size v_shelves3_items v_shelves4_holds v_shelves4_body v_shelves4_sort v_shelves4_size v_shelves4_items v_shelves5_holds v_shelves5_body v_shelves5_sort v_shelves5_size v_shelves5_items)) rfl (fun H locs hP hD hS => ?_)
                              generalize el_128 : (mm_cp v_shelves1_items v_shelves1_items x2 x4 x5) = l_128 at hP hD
                              have hf := mm_nms hf el_128.symm
                              refine lv_iload hx hb dX8_shift_134 (lv_at hl 7 rfl) ?_
                              apply mm_sub7 hf
                              exact mm_iret C0 hP hD hS dX8_shift_136
                            · have hf := mm_ip hf (mm_b0 c_126)
                              refine lv_bipush (v := -13) hx hb dX8_shift_113 (by decide) ?_
                              apply mm_sub7 hf
                              exact mm_iret C0 hP hD hS dX8_shift_115
                      · have hf := mm_in hf c_119
                        refine lv_bipush (v := -12) hx hb dX8_shift_82 (by decide) ?_
                        apply mm_sub7 hf
                        exact mm_iret C0 hP hD hS dX8_shift_84
                · have hf := mm_ip hf c_116
                  refine lv_bipush (v := -11) hx hb dX8_shift_48 (by decide) ?_
                  apply mm_sub7 hf
                  exact mm_iret C0 hP hD hS dX8_shift_50
            · have hf := mm_in hf c_114
              by_cases c_129 : x3 = (2 : Int32)
              · have hf := mm_ip hf c_129
                refine mm_aald 3 rfl C0 hP 86 rfl (b := a 91) (by rw [c_129]; rfl) (by rw [c_129]; rfl) dX8_shift_29 ?_
                refine lv_astore (lv' := [(7, .ref (a 91)), (6, .ref (a 89)), (0, .ref (a 0)), (1, .int x1), (2, .int x2), (3, .int x3), (4, .int x4), (5, .int x5)]) hx hb dX8_shift_30 hl (by decide) rfl (fun ls hl => ?_)
                refine lv_aload hx hb dX8_shift_32 (lv_at hl 1 rfl) ?_
                refine mm_get C0 hP iw_X6 89 rfl rfl 0 (by decide) fl_X8_168 rfl dX8_shift_34 ?_
                refine lv_if_eq (tgt := 48) hx hb dX8_shift_37 (by decide) (fun c_130 => ?_) (fun c_130 => ?_)
                · have hf := mm_ip hf c_130
                  refine lv_bipush (v := -11) hx hb dX8_shift_48 (by decide) ?_
                  apply mm_sub7 hf
                  exact mm_iret C0 hP hD hS dX8_shift_50
                · have hf := mm_in hf c_130
                  refine lv_aload hx hb dX8_shift_40 (lv_at hl 0 rfl) ?_
                  refine mm_get C0 hP iw_X6 91 rfl rfl 0 (by decide) fl_X8_168 rfl dX8_shift_42 ?_
                  refine lv_if_ne (tgt := 51) hx hb dX8_shift_45 (by decide) (fun c_131 => ?_) (fun c_131 => ?_)
                  · have hf := mm_in hf c_131
                    refine lv_aload hx hb dX8_shift_51 (lv_at hl 1 rfl) ?_
                    refine mm_get C0 hP iw_X6 89 rfl rfl 0 (by decide) fl_X8_168 rfl dX8_shift_53 ?_
                    refine lv_iconst (v := 2) hx hb dX8_shift_56 (by decide) ?_
                    refine lv_icmp_ne (tgt := 82) hx hb dX8_shift_57 (by decide) (fun c_132 => ?_) (fun c_132 => ?_)
                    · have hf := mm_in hf c_132
                      refine lv_bipush (v := -12) hx hb dX8_shift_82 (by decide) ?_
                      apply mm_sub7 hf
                      exact mm_iret C0 hP hD hS dX8_shift_84
                    · have hf := mm_ip hf c_132
                      refine lv_aload hx hb dX8_shift_60 (lv_at hl 0 rfl) ?_
                      refine mm_get C0 hP iw_X6 91 rfl rfl 0 (by decide) fl_X8_168 rfl dX8_shift_62 ?_
                      refine lv_iconst (v := 2) hx hb dX8_shift_65 (by decide) ?_
                      refine lv_icmp_ne (tgt := 82) hx hb dX8_shift_66 (by decide) (fun c_133 => ?_) (fun c_133 => ?_)
                      · have hf := mm_in hf c_133
                        refine lv_bipush (v := -12) hx hb dX8_shift_82 (by decide) ?_
                        apply mm_sub7 hf
                        exact mm_iret C0 hP hD hS dX8_shift_84
                      · have hf := mm_ip hf c_133
                        refine lv_aload hx hb dX8_shift_69 (lv_at hl 1 rfl) ?_
                        refine mm_get C0 hP iw_X6 89 rfl rfl 2 (by decide) fl_X8_171 rfl dX8_shift_71 ?_
                        refine lv_aload hx hb dX8_shift_74 (lv_at hl 0 rfl) ?_
                        refine mm_get C0 hP iw_X6 91 rfl rfl 2 (by decide) fl_X8_171 rfl dX8_shift_76 ?_
                        refine lv_icmp_eq (tgt := 85) hx hb dX8_shift_79 (by decide) (fun c_134 => ?_) (fun c_134 => ?_)
                        · have hf := mm_ip hf c_134
                          refine lv_iload hx hb dX8_shift_85 (lv_at hl 7 rfl) ?_
                          refine lv_if_lt (tgt := 113) hx hb dX8_shift_87 (by decide) (fun c_135 => ?_) (fun c_135 => ?_)
                          · have hf := mm_ip hf c_135
                            refine lv_bipush (v := -13) hx hb dX8_shift_113 (by decide) ?_
                            apply mm_sub7 hf
                            exact mm_iret C0 hP hD hS dX8_shift_115
                          · have hf := mm_in hf c_135
                            refine lv_aload hx hb dX8_shift_90 (lv_at hl 1 rfl) ?_
                            refine lv_iload_n hx hb dX8_shift_92 rfl (lv_at hl 4 rfl) ?_
                            refine lv_iload hx hb dX8_shift_93 (lv_at hl 7 rfl) ?_
                            obtain ⟨r_136, hc_137, hf⟩ := mm_bd1s hf
                            refine mm_callW (q0 := 89) (ci := 6) (w2 := (wd_X8 cI cL cS cH a v_hasImage v_now_rows v_now_cols v_now_high v_now_wide v_now_folds v_now_wrong v_now_more v_now_rowOf v_now_colOf v_now_below v_now_face v_now_worn v_now_last v_now_bend v_now_tall v_kept_rows v_kept_cols v_kept_high v_kept_wide v_kept_folds v_kept_wrong v_kept_more v_kept_rowOf v_kept_colOf v_kept_below v_kept_face v_kept_worn v_kept_last v_kept_bend v_kept_tall v_wearing_size v_wearing_stepCount v_wearing_draftCount v_wearing_place v_wearing_fault v_wearing_stacked v_wearing_tape v_wearing_steps v_wearing_draft v_wearing_stack v_planned_size v_planned_trial_rows v_planned_trial_cols v_planned_trial_high v_planned_trial_wide v_planned_trial_folds v_planned_trial_wrong v_planned_trial_more v_planned_trial_rowOf v_planned_trial_colOf v_planned_trial_below v_planned_trial_face v_planned_trial_worn v_planned_trial_last v_planned_trial_bend v_planned_trial_tall v_planned_lines v_planned_ways v_search_found v_search_wrong v_search_more v_search_folds v_search_wanted v_search_levels0_rows v_search_levels0_cols v_search_levels0_high v_search_levels0_wide v_search_levels0_folds v_search_levels0_wrong v_search_levels0_more v_search_levels0_rowOf v_search_levels0_colOf v_search_levels0_below v_search_levels0_face v_search_levels0_worn v_search_levels0_last v_search_levels0_bend v_search_levels0_tall v_search_levels1_rows v_search_levels1_cols v_search_levels1_high v_search_levels1_wide v_search_levels1_folds v_search_levels1_wrong v_search_levels1_more v_search_levels1_rowOf v_search_levels1_colOf v_search_levels1_below v_search_levels1_face v_search_levels1_worn v_search_levels1_last v_search_levels1_bend v_search_levels1_tall v_search_levels2_rows v_search_levels2_cols v_search_levels2_high v_search_levels2_wide v_search_levels2_folds v_search_levels2_wrong v_search_levels2_more v_search_levels2_rowOf v_search_levels2_colOf v_search_levels2_below v_search_levels2_face v_search_levels2_worn v_search_levels2_last v_search_levels2_bend v_search_levels2_tall v_search_levels3_rows v_search_levels3_cols v_search_levels3_high v_search_levels3_wide v_search_levels3_folds v_search_levels3_wrong v_search_levels3_more v_search_levels3_rowOf v_search_levels3_colOf v_search_levels3_below v_search_levels3_face v_search_levels3_worn v_search_levels3_last v_search_levels3_bend v_search_levels3_tall v_search_path v_search_best v_strip_list v_strip_found v_strip_at v_changes_value v_changes_done v_changes_size v_changes_before v_changes_after v_foldings_size v_foldings_ran v_foldings_number v_foldings_kinds v_foldings_trace v_shelves0_holds v_shelves0_body v_shelves0_sort v_shelves0_size v_shelves0_items v_shelves1_holds v_shelves1_body v_shelves1_sort v_shelves1_size v_shelves1_items v_shelves2_holds v_shelves2_body v_shelves2_sort v_shelves2_size v_shelves2_items v_shelves3_holds v_shelves3_body v_shelves3_sort v_shelves3_size v_shelves3_items v_shelves4_holds v_shelves4_body v_shelves4_sort v_shelves4_size v_shelves4_items v_shelves5_holds v_shelves5_body v_shelves5_sort v_shelves5_size v_shelves5_items)) (rest := []) C0 lk_X8_303 (ctX6_hasPart (a := (fun k => a (k + 89))) (d := d - 1) (by omega) hc_137) (by omega) rfl hl.1 rfl (mm_cat rfl) dX8_shift_95 hP hD hA hS rfl rfl [false, false, false, false, false, false, false, false, false, false, false, false, false, false, false, false, false, false, false, false, false, false, false, false, false, false, false, false, false, false, false, false, false, false, false, false, false, false, false, false, false, false, false, false, false, false, false, false, false, false, false, false, false, false, false, false, false, false, false, false, false, false, false, false, false, false, false, false, false, false, false, false, false, false, false, false, false, false, false, false, false, false, false, false, false, false, false, false, false, true, true, false, false, false, false, false, false, false, false] rfl rfl rfl rfl (fun H locs hP hD hS => ?_)
                            refine W.eq (g2 := F0 m 98 ls [.int (mm_b r_136)]) rfl ?_
                            refine lv_if_eq (tgt := 113) hx hb dX8_shift_98 (by decide) (fun c_138 => ?_) (fun c_138 => ?_)
                            · have hf := mm_ip hf (mm_b0 c_138)
                              refine lv_bipush (v := -13) hx hb dX8_shift_113 (by decide) ?_
                              apply mm_sub7 hf
                              exact mm_iret C0 hP hD hS dX8_shift_115
                            · have hf := mm_in hf (mm_b1 c_138)
                              refine lv_aload hx hb dX8_shift_101 (lv_at hl 0 rfl) ?_
                              refine lv_iload hx hb dX8_shift_103 (lv_at hl 6 rfl) ?_
                              refine lv_iload hx hb dX8_shift_105 (lv_at hl 7 rfl) ?_
                              obtain ⟨r_139, hc_140, hf⟩ := mm_bd1s hf
                              refine mm_callW (q0 := 91) (ci := 6) (w2 := (wd_X8 cI cL cS cH a v_hasImage v_now_rows v_now_cols v_now_high v_now_wide v_now_folds v_now_wrong v_now_more v_now_rowOf v_now_colOf v_now_below v_now_face v_now_worn v_now_last v_now_bend v_now_tall v_kept_rows v_kept_cols v_kept_high v_kept_wide v_kept_folds v_kept_wrong v_kept_more v_kept_rowOf v_kept_colOf v_kept_below v_kept_face v_kept_worn v_kept_last v_kept_bend v_kept_tall v_wearing_size v_wearing_stepCount v_wearing_draftCount v_wearing_place v_wearing_fault v_wearing_stacked v_wearing_tape v_wearing_steps v_wearing_draft v_wearing_stack v_planned_size v_planned_trial_rows v_planned_trial_cols v_planned_trial_high v_planned_trial_wide v_planned_trial_folds v_planned_trial_wrong v_planned_trial_more v_planned_trial_rowOf v_planned_trial_colOf v_planned_trial_below v_planned_trial_face v_planned_trial_worn v_planned_trial_last v_planned_trial_bend v_planned_trial_tall v_planned_lines v_planned_ways v_search_found v_search_wrong v_search_more v_search_folds v_search_wanted v_search_levels0_rows v_search_levels0_cols v_search_levels0_high v_search_levels0_wide v_search_levels0_folds v_search_levels0_wrong v_search_levels0_more v_search_levels0_rowOf v_search_levels0_colOf v_search_levels0_below v_search_levels0_face v_search_levels0_worn v_search_levels0_last v_search_levels0_bend v_search_levels0_tall v_search_levels1_rows v_search_levels1_cols v_search_levels1_high v_search_levels1_wide v_search_levels1_folds v_search_levels1_wrong v_search_levels1_more v_search_levels1_rowOf v_search_levels1_colOf v_search_levels1_below v_search_levels1_face v_search_levels1_worn v_search_levels1_last v_search_levels1_bend v_search_levels1_tall v_search_levels2_rows v_search_levels2_cols v_search_levels2_high v_search_levels2_wide v_search_levels2_folds v_search_levels2_wrong v_search_levels2_more v_search_levels2_rowOf v_search_levels2_colOf v_search_levels2_below v_search_levels2_face v_search_levels2_worn v_search_levels2_last v_search_levels2_bend v_search_levels2_tall v_search_levels3_rows v_search_levels3_cols v_search_levels3_high v_search_levels3_wide v_search_levels3_folds v_search_levels3_wrong v_search_levels3_more v_search_levels3_rowOf v_search_levels3_colOf v_search_levels3_below v_search_levels3_face v_search_levels3_worn v_search_levels3_last v_search_levels3_bend v_search_levels3_tall v_search_path v_search_best v_strip_list v_strip_found v_strip_at v_changes_value v_changes_done v_changes_size v_changes_before v_changes_after v_foldings_size v_foldings_ran v_foldings_number v_foldings_kinds v_foldings_trace v_shelves0_holds v_shelves0_body v_shelves0_sort v_shelves0_size v_shelves0_items v_shelves1_holds v_shelves1_body v_shelves1_sort v_shelves1_size v_shelves1_items v_shelves2_holds v_shelves2_body v_shelves2_sort v_shelves2_size v_shelves2_items v_shelves3_holds v_shelves3_body v_shelves3_sort v_shelves3_size v_shelves3_items v_shelves4_holds v_shelves4_body v_shelves4_sort v_shelves4_size v_shelves4_items v_shelves5_holds v_shelves5_body v_shelves5_sort v_shelves5_size v_shelves5_items)) (rest := []) C0 lk_X8_303 (ctX6_hasPart (a := (fun k => a (k + 91))) (d := d - 1) (by omega) hc_140) (by omega) rfl hl.1 rfl (mm_cat rfl) dX8_shift_107 hP hD hA hS rfl rfl [false, false, false, false, false, false, false, false, false, false, false, false, false, false, false, false, false, false, false, false, false, false, false, false, false, false, false, false, false, false, false, false, false, false, false, false, false, false, false, false, false, false, false, false, false, false, false, false, false, false, false, false, false, false, false, false, false, false, false, false, false, false, false, false, false, false, false, false, false, false, false, false, false, false, false, false, false, false, false, false, false, false, false, false, false, false, false, false, false, false, false, true, true, false, false, false, false, false, false] rfl rfl rfl rfl (fun H locs hP hD hS => ?_)
                              refine W.eq (g2 := F0 m 110 ls [.int (mm_b r_139)]) rfl ?_
                              refine lv_if_ne (tgt := 116) hx hb dX8_shift_110 (by decide) (fun c_141 => ?_) (fun c_141 => ?_)
                              · have hf := mm_in hf (mm_b1 c_141)
                                refine lv_aload hx hb dX8_shift_116 (lv_at hl 1 rfl) ?_
                                refine mm_get C0 hP iw_X6 89 rfl rfl 4 (by decide) fl_X8_299 rfl dX8_shift_118 ?_
                                refine lv_iload_n hx hb dX8_shift_121 rfl (lv_at hl 4 rfl) ?_
                                refine lv_aload hx hb dX8_shift_122 (lv_at hl 0 rfl) ?_
                                refine mm_get C0 hP iw_X6 91 rfl rfl 4 (by decide) fl_X8_299 rfl dX8_shift_124 ?_
                                refine lv_iload hx hb dX8_shift_127 (lv_at hl 6 rfl) ?_
                                refine lv_iload hx hb dX8_shift_129 (lv_at hl 7 rfl) ?_
                                obtain ⟨h_142, hf⟩ := mm_cks hf
                                refine mm_copyl C0 la_X8_306 hP hD hS 90 92 rfl rfl h_142 hl.1 (by omega) (mm_cat rfl) dX8_shift_131 (w2 := (wd_X8 cI cL cS cH a v_hasImage v_now_rows v_now_cols v_now_high v_now_wide v_now_folds v_now_wrong v_now_more v_now_rowOf v_now_colOf v_now_below v_now_face v_now_worn v_now_last v_now_bend v_now_tall v_kept_rows v_kept_cols v_kept_high v_kept_wide v_kept_folds v_kept_wrong v_kept_more v_kept_rowOf v_kept_colOf v_kept_below v_kept_face v_kept_worn v_kept_last v_kept_bend v_kept_tall v_wearing_size v_wearing_stepCount v_wearing_draftCount v_wearing_place v_wearing_fault v_wearing_stacked v_wearing_tape v_wearing_steps v_wearing_draft v_wearing_stack v_planned_size v_planned_trial_rows v_planned_trial_cols v_planned_trial_high v_planned_trial_wide v_planned_trial_folds v_planned_trial_wrong v_planned_trial_more v_planned_trial_rowOf v_planned_trial_colOf v_planned_trial_below v_planned_trial_face v_planned_trial_worn v_planned_trial_last v_planned_trial_bend v_planned_trial_tall v_planned_lines v_planned_ways v_search_found v_search_wrong v_search_more v_search_folds v_search_wanted v_search_levels0_rows v_search_levels0_cols v_search_levels0_high v_search_levels0_wide v_search_levels0_folds v_search_levels0_wrong v_search_levels0_more v_search_levels0_rowOf v_search_levels0_colOf v_search_levels0_below v_search_levels0_face v_search_levels0_worn v_search_levels0_last v_search_levels0_bend v_search_levels0_tall v_search_levels1_rows v_search_levels1_cols v_search_levels1_high v_search_levels1_wide v_search_levels1_folds v_search_levels1_wrong v_search_levels1_more v_search_levels1_rowOf v_search_levels1_colOf v_search_levels1_below v_search_levels1_face v_search_levels1_worn v_search_levels1_last v_search_levels1_bend v_search_levels1_tall v_search_levels2_rows v_search_levels2_cols v_search_levels2_high v_search_levels2_wide v_search_levels2_folds v_search_levels2_wrong v_search_levels2_more v_search_levels2_rowOf v_search_levels2_colOf v_search_levels2_below v_search_levels2_face v_search_levels2_worn v_search_levels2_last v_search_levels2_bend v_search_levels2_tall v_search_levels3_rows v_search_levels3_cols v_search_levels3_high v_search_levels3_wide v_search_levels3_folds v_search_levels3_wrong v_search_levels3_more v_search_levels3_rowOf v_search_levels3_colOf v_search_levels3_below v_search_levels3_face v_search_levels3_worn v_search_levels3_last v_search_levels3_bend v_search_levels3_tall v_search_path v_search_best v_strip_list v_strip_found v_strip_at v_changes_value v_changes_done v_changes_size v_changes_before v_changes_after v_foldings_size v_foldings_ran v_foldings_number v_foldings_kinds v_foldings_trace v_shelves0_holds v_shelves0_body v_shelves0_sort v_shelves0_size v_shelves0_items v_shelves1_holds v_shelves1_body v_shelves1_sort v_shelves1_size v_shelves1_items v_shelves2_holds v_shelves2_body v_shelves2_sort v_shelves2_size (mm_cp v_shelves1_items v_shelves2_items x2 x4 x5) v_shelves3_holds v_shelves3_body v_shelves3_sort v_shelves3_size v_shelves3_items v_shelves4_holds v_shelves4_body v_shelves4_sort v_shelves4_size v_shelves4_items v_shelves5_holds v_shelves5_body v_shelves5_sort v_shelves5_size v_shelves5_items)) rfl (fun H locs hP hD hS => ?_)
                                generalize el_143 : (mm_cp v_shelves1_items v_shelves2_items x2 x4 x5) = l_143 at hP hD
                                have hf := mm_nms hf el_143.symm
                                refine lv_iload hx hb dX8_shift_134 (lv_at hl 7 rfl) ?_
                                apply mm_sub7 hf
                                exact mm_iret C0 hP hD hS dX8_shift_136
                              · have hf := mm_ip hf (mm_b0 c_141)
                                refine lv_bipush (v := -13) hx hb dX8_shift_113 (by decide) ?_
                                apply mm_sub7 hf
                                exact mm_iret C0 hP hD hS dX8_shift_115
                        · have hf := mm_in hf c_134
                          refine lv_bipush (v := -12) hx hb dX8_shift_82 (by decide) ?_
                          apply mm_sub7 hf
                          exact mm_iret C0 hP hD hS dX8_shift_84
                  · have hf := mm_ip hf c_131
                    refine lv_bipush (v := -11) hx hb dX8_shift_48 (by decide) ?_
                    apply mm_sub7 hf
                    exact mm_iret C0 hP hD hS dX8_shift_50
              · have hf := mm_in hf c_129
                by_cases c_144 : x3 = (3 : Int32)
                · have hf := mm_ip hf c_144
                  refine mm_aald 3 rfl C0 hP 86 rfl (b := a 93) (by rw [c_144]; rfl) (by rw [c_144]; rfl) dX8_shift_29 ?_
                  refine lv_astore (lv' := [(7, .ref (a 93)), (6, .ref (a 89)), (0, .ref (a 0)), (1, .int x1), (2, .int x2), (3, .int x3), (4, .int x4), (5, .int x5)]) hx hb dX8_shift_30 hl (by decide) rfl (fun ls hl => ?_)
                  refine lv_aload hx hb dX8_shift_32 (lv_at hl 1 rfl) ?_
                  refine mm_get C0 hP iw_X6 89 rfl rfl 0 (by decide) fl_X8_168 rfl dX8_shift_34 ?_
                  refine lv_if_eq (tgt := 48) hx hb dX8_shift_37 (by decide) (fun c_145 => ?_) (fun c_145 => ?_)
                  · have hf := mm_ip hf c_145
                    refine lv_bipush (v := -11) hx hb dX8_shift_48 (by decide) ?_
                    apply mm_sub7 hf
                    exact mm_iret C0 hP hD hS dX8_shift_50
                  · have hf := mm_in hf c_145
                    refine lv_aload hx hb dX8_shift_40 (lv_at hl 0 rfl) ?_
                    refine mm_get C0 hP iw_X6 93 rfl rfl 0 (by decide) fl_X8_168 rfl dX8_shift_42 ?_
                    refine lv_if_ne (tgt := 51) hx hb dX8_shift_45 (by decide) (fun c_146 => ?_) (fun c_146 => ?_)
                    · have hf := mm_in hf c_146
                      refine lv_aload hx hb dX8_shift_51 (lv_at hl 1 rfl) ?_
                      refine mm_get C0 hP iw_X6 89 rfl rfl 0 (by decide) fl_X8_168 rfl dX8_shift_53 ?_
                      refine lv_iconst (v := 2) hx hb dX8_shift_56 (by decide) ?_
                      refine lv_icmp_ne (tgt := 82) hx hb dX8_shift_57 (by decide) (fun c_147 => ?_) (fun c_147 => ?_)
                      · have hf := mm_in hf c_147
                        refine lv_bipush (v := -12) hx hb dX8_shift_82 (by decide) ?_
                        apply mm_sub7 hf
                        exact mm_iret C0 hP hD hS dX8_shift_84
                      · have hf := mm_ip hf c_147
                        refine lv_aload hx hb dX8_shift_60 (lv_at hl 0 rfl) ?_
                        refine mm_get C0 hP iw_X6 93 rfl rfl 0 (by decide) fl_X8_168 rfl dX8_shift_62 ?_
                        refine lv_iconst (v := 2) hx hb dX8_shift_65 (by decide) ?_
                        refine lv_icmp_ne (tgt := 82) hx hb dX8_shift_66 (by decide) (fun c_148 => ?_) (fun c_148 => ?_)
                        · have hf := mm_in hf c_148
                          refine lv_bipush (v := -12) hx hb dX8_shift_82 (by decide) ?_
                          apply mm_sub7 hf
                          exact mm_iret C0 hP hD hS dX8_shift_84
                        · have hf := mm_ip hf c_148
                          refine lv_aload hx hb dX8_shift_69 (lv_at hl 1 rfl) ?_
                          refine mm_get C0 hP iw_X6 89 rfl rfl 2 (by decide) fl_X8_171 rfl dX8_shift_71 ?_
                          refine lv_aload hx hb dX8_shift_74 (lv_at hl 0 rfl) ?_
                          refine mm_get C0 hP iw_X6 93 rfl rfl 2 (by decide) fl_X8_171 rfl dX8_shift_76 ?_
                          refine lv_icmp_eq (tgt := 85) hx hb dX8_shift_79 (by decide) (fun c_149 => ?_) (fun c_149 => ?_)
                          · have hf := mm_ip hf c_149
                            refine lv_iload hx hb dX8_shift_85 (lv_at hl 7 rfl) ?_
                            refine lv_if_lt (tgt := 113) hx hb dX8_shift_87 (by decide) (fun c_150 => ?_) (fun c_150 => ?_)
                            · have hf := mm_ip hf c_150
                              refine lv_bipush (v := -13) hx hb dX8_shift_113 (by decide) ?_
                              apply mm_sub7 hf
                              exact mm_iret C0 hP hD hS dX8_shift_115
                            · have hf := mm_in hf c_150
                              refine lv_aload hx hb dX8_shift_90 (lv_at hl 1 rfl) ?_
                              refine lv_iload_n hx hb dX8_shift_92 rfl (lv_at hl 4 rfl) ?_
                              refine lv_iload hx hb dX8_shift_93 (lv_at hl 7 rfl) ?_
                              obtain ⟨r_151, hc_152, hf⟩ := mm_bd1s hf
                              refine mm_callW (q0 := 89) (ci := 6) (w2 := (wd_X8 cI cL cS cH a v_hasImage v_now_rows v_now_cols v_now_high v_now_wide v_now_folds v_now_wrong v_now_more v_now_rowOf v_now_colOf v_now_below v_now_face v_now_worn v_now_last v_now_bend v_now_tall v_kept_rows v_kept_cols v_kept_high v_kept_wide v_kept_folds v_kept_wrong v_kept_more v_kept_rowOf v_kept_colOf v_kept_below v_kept_face v_kept_worn v_kept_last v_kept_bend v_kept_tall v_wearing_size v_wearing_stepCount v_wearing_draftCount v_wearing_place v_wearing_fault v_wearing_stacked v_wearing_tape v_wearing_steps v_wearing_draft v_wearing_stack v_planned_size v_planned_trial_rows v_planned_trial_cols v_planned_trial_high v_planned_trial_wide v_planned_trial_folds v_planned_trial_wrong v_planned_trial_more v_planned_trial_rowOf v_planned_trial_colOf v_planned_trial_below v_planned_trial_face v_planned_trial_worn v_planned_trial_last v_planned_trial_bend v_planned_trial_tall v_planned_lines v_planned_ways v_search_found v_search_wrong v_search_more v_search_folds v_search_wanted v_search_levels0_rows v_search_levels0_cols v_search_levels0_high v_search_levels0_wide v_search_levels0_folds v_search_levels0_wrong v_search_levels0_more v_search_levels0_rowOf v_search_levels0_colOf v_search_levels0_below v_search_levels0_face v_search_levels0_worn v_search_levels0_last v_search_levels0_bend v_search_levels0_tall v_search_levels1_rows v_search_levels1_cols v_search_levels1_high v_search_levels1_wide v_search_levels1_folds v_search_levels1_wrong v_search_levels1_more v_search_levels1_rowOf v_search_levels1_colOf v_search_levels1_below v_search_levels1_face v_search_levels1_worn v_search_levels1_last v_search_levels1_bend v_search_levels1_tall v_search_levels2_rows v_search_levels2_cols v_search_levels2_high v_search_levels2_wide v_search_levels2_folds v_search_levels2_wrong v_search_levels2_more v_search_levels2_rowOf v_search_levels2_colOf v_search_levels2_below v_search_levels2_face v_search_levels2_worn v_search_levels2_last v_search_levels2_bend v_search_levels2_tall v_search_levels3_rows v_search_levels3_cols v_search_levels3_high v_search_levels3_wide v_search_levels3_folds v_search_levels3_wrong v_search_levels3_more v_search_levels3_rowOf v_search_levels3_colOf v_search_levels3_below v_search_levels3_face v_search_levels3_worn v_search_levels3_last v_search_levels3_bend v_search_levels3_tall v_search_path v_search_best v_strip_list v_strip_found v_strip_at v_changes_value v_changes_done v_changes_size v_changes_before v_changes_after v_foldings_size v_foldings_ran v_foldings_number v_foldings_kinds v_foldings_trace v_shelves0_holds v_shelves0_body v_shelves0_sort v_shelves0_size v_shelves0_items v_shelves1_holds v_shelves1_body v_shelves1_sort v_shelves1_size v_shelves1_items v_shelves2_holds v_shelves2_body v_shelves2_sort v_shelves2_size v_shelves2_items v_shelves3_holds v_shelves3_body v_shelves3_sort v_shelves3_size v_shelves3_items v_shelves4_holds v_shelves4_body v_shelves4_sort v_shelves4_size v_shelves4_items v_shelves5_holds v_shelves5_body v_shelves5_sort v_shelves5_size v_shelves5_items)) (rest := []) C0 lk_X8_303 (ctX6_hasPart (a := (fun k => a (k + 89))) (d := d - 1) (by omega) hc_152) (by omega) rfl hl.1 rfl (mm_cat rfl) dX8_shift_95 hP hD hA hS rfl rfl [false, false, false, false, false, false, false, false, false, false, false, false, false, false, false, false, false, false, false, false, false, false, false, false, false, false, false, false, false, false, false, false, false, false, false, false, false, false, false, false, false, false, false, false, false, false, false, false, false, false, false, false, false, false, false, false, false, false, false, false, false, false, false, false, false, false, false, false, false, false, false, false, false, false, false, false, false, false, false, false, false, false, false, false, false, false, false, false, false, true, true, false, false, false, false, false, false, false, false] rfl rfl rfl rfl (fun H locs hP hD hS => ?_)
                              refine W.eq (g2 := F0 m 98 ls [.int (mm_b r_151)]) rfl ?_
                              refine lv_if_eq (tgt := 113) hx hb dX8_shift_98 (by decide) (fun c_153 => ?_) (fun c_153 => ?_)
                              · have hf := mm_ip hf (mm_b0 c_153)
                                refine lv_bipush (v := -13) hx hb dX8_shift_113 (by decide) ?_
                                apply mm_sub7 hf
                                exact mm_iret C0 hP hD hS dX8_shift_115
                              · have hf := mm_in hf (mm_b1 c_153)
                                refine lv_aload hx hb dX8_shift_101 (lv_at hl 0 rfl) ?_
                                refine lv_iload hx hb dX8_shift_103 (lv_at hl 6 rfl) ?_
                                refine lv_iload hx hb dX8_shift_105 (lv_at hl 7 rfl) ?_
                                obtain ⟨r_154, hc_155, hf⟩ := mm_bd1s hf
                                refine mm_callW (q0 := 93) (ci := 6) (w2 := (wd_X8 cI cL cS cH a v_hasImage v_now_rows v_now_cols v_now_high v_now_wide v_now_folds v_now_wrong v_now_more v_now_rowOf v_now_colOf v_now_below v_now_face v_now_worn v_now_last v_now_bend v_now_tall v_kept_rows v_kept_cols v_kept_high v_kept_wide v_kept_folds v_kept_wrong v_kept_more v_kept_rowOf v_kept_colOf v_kept_below v_kept_face v_kept_worn v_kept_last v_kept_bend v_kept_tall v_wearing_size v_wearing_stepCount v_wearing_draftCount v_wearing_place v_wearing_fault v_wearing_stacked v_wearing_tape v_wearing_steps v_wearing_draft v_wearing_stack v_planned_size v_planned_trial_rows v_planned_trial_cols v_planned_trial_high v_planned_trial_wide v_planned_trial_folds v_planned_trial_wrong v_planned_trial_more v_planned_trial_rowOf v_planned_trial_colOf v_planned_trial_below v_planned_trial_face v_planned_trial_worn v_planned_trial_last v_planned_trial_bend v_planned_trial_tall v_planned_lines v_planned_ways v_search_found v_search_wrong v_search_more v_search_folds v_search_wanted v_search_levels0_rows v_search_levels0_cols v_search_levels0_high v_search_levels0_wide v_search_levels0_folds v_search_levels0_wrong v_search_levels0_more v_search_levels0_rowOf v_search_levels0_colOf v_search_levels0_below v_search_levels0_face v_search_levels0_worn v_search_levels0_last v_search_levels0_bend v_search_levels0_tall v_search_levels1_rows v_search_levels1_cols v_search_levels1_high v_search_levels1_wide v_search_levels1_folds v_search_levels1_wrong v_search_levels1_more v_search_levels1_rowOf v_search_levels1_colOf v_search_levels1_below v_search_levels1_face v_search_levels1_worn v_search_levels1_last v_search_levels1_bend v_search_levels1_tall v_search_levels2_rows v_search_levels2_cols v_search_levels2_high v_search_levels2_wide v_search_levels2_folds v_search_levels2_wrong v_search_levels2_more v_search_levels2_rowOf v_search_levels2_colOf v_search_levels2_below v_search_levels2_face v_search_levels2_worn v_search_levels2_last v_search_levels2_bend v_search_levels2_tall v_search_levels3_rows v_search_levels3_cols v_search_levels3_high v_search_levels3_wide v_search_levels3_folds v_search_levels3_wrong v_search_levels3_more v_search_levels3_rowOf v_search_levels3_colOf v_search_levels3_below v_search_levels3_face v_search_levels3_worn v_search_levels3_last v_search_levels3_bend v_search_levels3_tall v_search_path v_search_best v_strip_list v_strip_found v_strip_at v_changes_value v_changes_done v_changes_size v_changes_before v_changes_after v_foldings_size v_foldings_ran v_foldings_number v_foldings_kinds v_foldings_trace v_shelves0_holds v_shelves0_body v_shelves0_sort v_shelves0_size v_shelves0_items v_shelves1_holds v_shelves1_body v_shelves1_sort v_shelves1_size v_shelves1_items v_shelves2_holds v_shelves2_body v_shelves2_sort v_shelves2_size v_shelves2_items v_shelves3_holds v_shelves3_body v_shelves3_sort v_shelves3_size v_shelves3_items v_shelves4_holds v_shelves4_body v_shelves4_sort v_shelves4_size v_shelves4_items v_shelves5_holds v_shelves5_body v_shelves5_sort v_shelves5_size v_shelves5_items)) (rest := []) C0 lk_X8_303 (ctX6_hasPart (a := (fun k => a (k + 93))) (d := d - 1) (by omega) hc_155) (by omega) rfl hl.1 rfl (mm_cat rfl) dX8_shift_107 hP hD hA hS rfl rfl [false, false, false, false, false, false, false, false, false, false, false, false, false, false, false, false, false, false, false, false, false, false, false, false, false, false, false, false, false, false, false, false, false, false, false, false, false, false, false, false, false, false, false, false, false, false, false, false, false, false, false, false, false, false, false, false, false, false, false, false, false, false, false, false, false, false, false, false, false, false, false, false, false, false, false, false, false, false, false, false, false, false, false, false, false, false, false, false, false, false, false, false, false, true, true, false, false, false, false] rfl rfl rfl rfl (fun H locs hP hD hS => ?_)
                                refine W.eq (g2 := F0 m 110 ls [.int (mm_b r_154)]) rfl ?_
                                refine lv_if_ne (tgt := 116) hx hb dX8_shift_110 (by decide) (fun c_156 => ?_) (fun c_156 => ?_)
                                · have hf := mm_in hf (mm_b1 c_156)
                                  refine lv_aload hx hb dX8_shift_116 (lv_at hl 1 rfl) ?_
                                  refine mm_get C0 hP iw_X6 89 rfl rfl 4 (by decide) fl_X8_299 rfl dX8_shift_118 ?_
                                  refine lv_iload_n hx hb dX8_shift_121 rfl (lv_at hl 4 rfl) ?_
                                  refine lv_aload hx hb dX8_shift_122 (lv_at hl 0 rfl) ?_
                                  refine mm_get C0 hP iw_X6 93 rfl rfl 4 (by decide) fl_X8_299 rfl dX8_shift_124 ?_
                                  refine lv_iload hx hb dX8_shift_127 (lv_at hl 6 rfl) ?_
                                  refine lv_iload hx hb dX8_shift_129 (lv_at hl 7 rfl) ?_
                                  obtain ⟨h_157, hf⟩ := mm_cks hf
                                  refine mm_copyl C0 la_X8_306 hP hD hS 90 94 rfl rfl h_157 hl.1 (by omega) (mm_cat rfl) dX8_shift_131 (w2 := (wd_X8 cI cL cS cH a v_hasImage v_now_rows v_now_cols v_now_high v_now_wide v_now_folds v_now_wrong v_now_more v_now_rowOf v_now_colOf v_now_below v_now_face v_now_worn v_now_last v_now_bend v_now_tall v_kept_rows v_kept_cols v_kept_high v_kept_wide v_kept_folds v_kept_wrong v_kept_more v_kept_rowOf v_kept_colOf v_kept_below v_kept_face v_kept_worn v_kept_last v_kept_bend v_kept_tall v_wearing_size v_wearing_stepCount v_wearing_draftCount v_wearing_place v_wearing_fault v_wearing_stacked v_wearing_tape v_wearing_steps v_wearing_draft v_wearing_stack v_planned_size v_planned_trial_rows v_planned_trial_cols v_planned_trial_high v_planned_trial_wide v_planned_trial_folds v_planned_trial_wrong v_planned_trial_more v_planned_trial_rowOf v_planned_trial_colOf v_planned_trial_below v_planned_trial_face v_planned_trial_worn v_planned_trial_last v_planned_trial_bend v_planned_trial_tall v_planned_lines v_planned_ways v_search_found v_search_wrong v_search_more v_search_folds v_search_wanted v_search_levels0_rows v_search_levels0_cols v_search_levels0_high v_search_levels0_wide v_search_levels0_folds v_search_levels0_wrong v_search_levels0_more v_search_levels0_rowOf v_search_levels0_colOf v_search_levels0_below v_search_levels0_face v_search_levels0_worn v_search_levels0_last v_search_levels0_bend v_search_levels0_tall v_search_levels1_rows v_search_levels1_cols v_search_levels1_high v_search_levels1_wide v_search_levels1_folds v_search_levels1_wrong v_search_levels1_more v_search_levels1_rowOf v_search_levels1_colOf v_search_levels1_below v_search_levels1_face v_search_levels1_worn v_search_levels1_last v_search_levels1_bend v_search_levels1_tall v_search_levels2_rows v_search_levels2_cols v_search_levels2_high v_search_levels2_wide v_search_levels2_folds v_search_levels2_wrong v_search_levels2_more v_search_levels2_rowOf v_search_levels2_colOf v_search_levels2_below v_search_levels2_face v_search_levels2_worn v_search_levels2_last v_search_levels2_bend v_search_levels2_tall v_search_levels3_rows v_search_levels3_cols v_search_levels3_high v_search_levels3_wide v_search_levels3_folds v_search_levels3_wrong v_search_levels3_more v_search_levels3_rowOf v_search_levels3_colOf v_search_levels3_below v_search_levels3_face v_search_levels3_worn v_search_levels3_last v_search_levels3_bend v_search_levels3_tall v_search_path v_search_best v_strip_list v_strip_found v_strip_at v_changes_value v_changes_done v_changes_size v_changes_before v_changes_after v_foldings_size v_foldings_ran v_foldings_number v_foldings_kinds v_foldings_trace v_shelves0_holds v_shelves0_body v_shelves0_sort v_shelves0_size v_shelves0_items v_shelves1_holds v_shelves1_body v_shelves1_sort v_shelves1_size v_shelves1_items v_shelves2_holds v_shelves2_body v_shelves2_sort v_shelves2_size v_shelves2_items v_shelves3_holds v_shelves3_body v_shelves3_sort v_shelves3_size (mm_cp v_shelves1_items v_shelves3_items x2 x4 x5) v_shelves4_holds v_shelves4_body v_shelves4_sort v_shelves4_size v_shelves4_items v_shelves5_holds v_shelves5_body v_shelves5_sort v_shelves5_size v_shelves5_items)) rfl (fun H locs hP hD hS => ?_)
                                  generalize el_158 : (mm_cp v_shelves1_items v_shelves3_items x2 x4 x5) = l_158 at hP hD
                                  have hf := mm_nms hf el_158.symm
                                  refine lv_iload hx hb dX8_shift_134 (lv_at hl 7 rfl) ?_
                                  apply mm_sub7 hf
                                  exact mm_iret C0 hP hD hS dX8_shift_136
                                · have hf := mm_ip hf (mm_b0 c_156)
                                  refine lv_bipush (v := -13) hx hb dX8_shift_113 (by decide) ?_
                                  apply mm_sub7 hf
                                  exact mm_iret C0 hP hD hS dX8_shift_115
                          · have hf := mm_in hf c_149
                            refine lv_bipush (v := -12) hx hb dX8_shift_82 (by decide) ?_
                            apply mm_sub7 hf
                            exact mm_iret C0 hP hD hS dX8_shift_84
                    · have hf := mm_ip hf c_146
                      refine lv_bipush (v := -11) hx hb dX8_shift_48 (by decide) ?_
                      apply mm_sub7 hf
                      exact mm_iret C0 hP hD hS dX8_shift_50
                · have hf := mm_in hf c_144
                  by_cases c_159 : x3 = (4 : Int32)
                  · have hf := mm_ip hf c_159
                    refine mm_aald 3 rfl C0 hP 86 rfl (b := a 95) (by rw [c_159]; rfl) (by rw [c_159]; rfl) dX8_shift_29 ?_
                    refine lv_astore (lv' := [(7, .ref (a 95)), (6, .ref (a 89)), (0, .ref (a 0)), (1, .int x1), (2, .int x2), (3, .int x3), (4, .int x4), (5, .int x5)]) hx hb dX8_shift_30 hl (by decide) rfl (fun ls hl => ?_)
                    refine lv_aload hx hb dX8_shift_32 (lv_at hl 1 rfl) ?_
                    refine mm_get C0 hP iw_X6 89 rfl rfl 0 (by decide) fl_X8_168 rfl dX8_shift_34 ?_
                    refine lv_if_eq (tgt := 48) hx hb dX8_shift_37 (by decide) (fun c_160 => ?_) (fun c_160 => ?_)
                    · have hf := mm_ip hf c_160
                      refine lv_bipush (v := -11) hx hb dX8_shift_48 (by decide) ?_
                      apply mm_sub7 hf
                      exact mm_iret C0 hP hD hS dX8_shift_50
                    · have hf := mm_in hf c_160
                      refine lv_aload hx hb dX8_shift_40 (lv_at hl 0 rfl) ?_
                      refine mm_get C0 hP iw_X6 95 rfl rfl 0 (by decide) fl_X8_168 rfl dX8_shift_42 ?_
                      refine lv_if_ne (tgt := 51) hx hb dX8_shift_45 (by decide) (fun c_161 => ?_) (fun c_161 => ?_)
                      · have hf := mm_in hf c_161
                        refine lv_aload hx hb dX8_shift_51 (lv_at hl 1 rfl) ?_
                        refine mm_get C0 hP iw_X6 89 rfl rfl 0 (by decide) fl_X8_168 rfl dX8_shift_53 ?_
                        refine lv_iconst (v := 2) hx hb dX8_shift_56 (by decide) ?_
                        refine lv_icmp_ne (tgt := 82) hx hb dX8_shift_57 (by decide) (fun c_162 => ?_) (fun c_162 => ?_)
                        · have hf := mm_in hf c_162
                          refine lv_bipush (v := -12) hx hb dX8_shift_82 (by decide) ?_
                          apply mm_sub7 hf
                          exact mm_iret C0 hP hD hS dX8_shift_84
                        · have hf := mm_ip hf c_162
                          refine lv_aload hx hb dX8_shift_60 (lv_at hl 0 rfl) ?_
                          refine mm_get C0 hP iw_X6 95 rfl rfl 0 (by decide) fl_X8_168 rfl dX8_shift_62 ?_
                          refine lv_iconst (v := 2) hx hb dX8_shift_65 (by decide) ?_
                          refine lv_icmp_ne (tgt := 82) hx hb dX8_shift_66 (by decide) (fun c_163 => ?_) (fun c_163 => ?_)
                          · have hf := mm_in hf c_163
                            refine lv_bipush (v := -12) hx hb dX8_shift_82 (by decide) ?_
                            apply mm_sub7 hf
                            exact mm_iret C0 hP hD hS dX8_shift_84
                          · have hf := mm_ip hf c_163
                            refine lv_aload hx hb dX8_shift_69 (lv_at hl 1 rfl) ?_
                            refine mm_get C0 hP iw_X6 89 rfl rfl 2 (by decide) fl_X8_171 rfl dX8_shift_71 ?_
                            refine lv_aload hx hb dX8_shift_74 (lv_at hl 0 rfl) ?_
                            refine mm_get C0 hP iw_X6 95 rfl rfl 2 (by decide) fl_X8_171 rfl dX8_shift_76 ?_
                            refine lv_icmp_eq (tgt := 85) hx hb dX8_shift_79 (by decide) (fun c_164 => ?_) (fun c_164 => ?_)
                            · have hf := mm_ip hf c_164
                              refine lv_iload hx hb dX8_shift_85 (lv_at hl 7 rfl) ?_
                              refine lv_if_lt (tgt := 113) hx hb dX8_shift_87 (by decide) (fun c_165 => ?_) (fun c_165 => ?_)
                              · have hf := mm_ip hf c_165
                                refine lv_bipush (v := -13) hx hb dX8_shift_113 (by decide) ?_
                                apply mm_sub7 hf
                                exact mm_iret C0 hP hD hS dX8_shift_115
                              · have hf := mm_in hf c_165
                                refine lv_aload hx hb dX8_shift_90 (lv_at hl 1 rfl) ?_
                                refine lv_iload_n hx hb dX8_shift_92 rfl (lv_at hl 4 rfl) ?_
                                refine lv_iload hx hb dX8_shift_93 (lv_at hl 7 rfl) ?_
                                obtain ⟨r_166, hc_167, hf⟩ := mm_bd1s hf
                                refine mm_callW (q0 := 89) (ci := 6) (w2 := (wd_X8 cI cL cS cH a v_hasImage v_now_rows v_now_cols v_now_high v_now_wide v_now_folds v_now_wrong v_now_more v_now_rowOf v_now_colOf v_now_below v_now_face v_now_worn v_now_last v_now_bend v_now_tall v_kept_rows v_kept_cols v_kept_high v_kept_wide v_kept_folds v_kept_wrong v_kept_more v_kept_rowOf v_kept_colOf v_kept_below v_kept_face v_kept_worn v_kept_last v_kept_bend v_kept_tall v_wearing_size v_wearing_stepCount v_wearing_draftCount v_wearing_place v_wearing_fault v_wearing_stacked v_wearing_tape v_wearing_steps v_wearing_draft v_wearing_stack v_planned_size v_planned_trial_rows v_planned_trial_cols v_planned_trial_high v_planned_trial_wide v_planned_trial_folds v_planned_trial_wrong v_planned_trial_more v_planned_trial_rowOf v_planned_trial_colOf v_planned_trial_below v_planned_trial_face v_planned_trial_worn v_planned_trial_last v_planned_trial_bend v_planned_trial_tall v_planned_lines v_planned_ways v_search_found v_search_wrong v_search_more v_search_folds v_search_wanted v_search_levels0_rows v_search_levels0_cols v_search_levels0_high v_search_levels0_wide v_search_levels0_folds v_search_levels0_wrong v_search_levels0_more v_search_levels0_rowOf v_search_levels0_colOf v_search_levels0_below v_search_levels0_face v_search_levels0_worn v_search_levels0_last v_search_levels0_bend v_search_levels0_tall v_search_levels1_rows v_search_levels1_cols v_search_levels1_high v_search_levels1_wide v_search_levels1_folds v_search_levels1_wrong v_search_levels1_more v_search_levels1_rowOf v_search_levels1_colOf v_search_levels1_below v_search_levels1_face v_search_levels1_worn v_search_levels1_last v_search_levels1_bend v_search_levels1_tall v_search_levels2_rows v_search_levels2_cols v_search_levels2_high v_search_levels2_wide v_search_levels2_folds v_search_levels2_wrong v_search_levels2_more v_search_levels2_rowOf v_search_levels2_colOf v_search_levels2_below v_search_levels2_face v_search_levels2_worn v_search_levels2_last v_search_levels2_bend v_search_levels2_tall v_search_levels3_rows v_search_levels3_cols v_search_levels3_high v_search_levels3_wide v_search_levels3_folds v_search_levels3_wrong v_search_levels3_more v_search_levels3_rowOf v_search_levels3_colOf v_search_levels3_below v_search_levels3_face v_search_levels3_worn v_search_levels3_last v_search_levels3_bend v_search_levels3_tall v_search_path v_search_best v_strip_list v_strip_found v_strip_at v_changes_value v_changes_done v_changes_size v_changes_before v_changes_after v_foldings_size v_foldings_ran v_foldings_number v_foldings_kinds v_foldings_trace v_shelves0_holds v_shelves0_body v_shelves0_sort v_shelves0_size v_shelves0_items v_shelves1_holds v_shelves1_body v_shelves1_sort v_shelves1_size v_shelves1_items v_shelves2_holds v_shelves2_body v_shelves2_sort v_shelves2_size v_shelves2_items v_shelves3_holds v_shelves3_body v_shelves3_sort v_shelves3_size v_shelves3_items v_shelves4_holds v_shelves4_body v_shelves4_sort v_shelves4_size v_shelves4_items v_shelves5_holds v_shelves5_body v_shelves5_sort v_shelves5_size v_shelves5_items)) (rest := []) C0 lk_X8_303 (ctX6_hasPart (a := (fun k => a (k + 89))) (d := d - 1) (by omega) hc_167) (by omega) rfl hl.1 rfl (mm_cat rfl) dX8_shift_95 hP hD hA hS rfl rfl [false, false, false, false, false, false, false, false, false, false, false, false, false, false, false, false, false, false, false, false, false, false, false, false, false, false, false, false, false, false, false, false, false, false, false, false, false, false, false, false, false, false, false, false, false, false, false, false, false, false, false, false, false, false, false, false, false, false, false, false, false, false, false, false, false, false, false, false, false, false, false, false, false, false, false, false, false, false, false, false, false, false, false, false, false, false, false, false, false, true, true, false, false, false, false, false, false, false, false] rfl rfl rfl rfl (fun H locs hP hD hS => ?_)
                                refine W.eq (g2 := F0 m 98 ls [.int (mm_b r_166)]) rfl ?_
                                refine lv_if_eq (tgt := 113) hx hb dX8_shift_98 (by decide) (fun c_168 => ?_) (fun c_168 => ?_)
                                · have hf := mm_ip hf (mm_b0 c_168)
                                  refine lv_bipush (v := -13) hx hb dX8_shift_113 (by decide) ?_
                                  apply mm_sub7 hf
                                  exact mm_iret C0 hP hD hS dX8_shift_115
                                · have hf := mm_in hf (mm_b1 c_168)
                                  refine lv_aload hx hb dX8_shift_101 (lv_at hl 0 rfl) ?_
                                  refine lv_iload hx hb dX8_shift_103 (lv_at hl 6 rfl) ?_
                                  refine lv_iload hx hb dX8_shift_105 (lv_at hl 7 rfl) ?_
                                  obtain ⟨r_169, hc_170, hf⟩ := mm_bd1s hf
                                  refine mm_callW (q0 := 95) (ci := 6) (w2 := (wd_X8 cI cL cS cH a v_hasImage v_now_rows v_now_cols v_now_high v_now_wide v_now_folds v_now_wrong v_now_more v_now_rowOf v_now_colOf v_now_below v_now_face v_now_worn v_now_last v_now_bend v_now_tall v_kept_rows v_kept_cols v_kept_high v_kept_wide v_kept_folds v_kept_wrong v_kept_more v_kept_rowOf v_kept_colOf v_kept_below v_kept_face v_kept_worn v_kept_last v_kept_bend v_kept_tall v_wearing_size v_wearing_stepCount v_wearing_draftCount v_wearing_place v_wearing_fault v_wearing_stacked v_wearing_tape v_wearing_steps v_wearing_draft v_wearing_stack v_planned_size v_planned_trial_rows v_planned_trial_cols v_planned_trial_high v_planned_trial_wide v_planned_trial_folds v_planned_trial_wrong v_planned_trial_more v_planned_trial_rowOf v_planned_trial_colOf v_planned_trial_below v_planned_trial_face v_planned_trial_worn v_planned_trial_last v_planned_trial_bend v_planned_trial_tall v_planned_lines v_planned_ways v_search_found v_search_wrong v_search_more v_search_folds v_search_wanted v_search_levels0_rows v_search_levels0_cols v_search_levels0_high v_search_levels0_wide v_search_levels0_folds v_search_levels0_wrong v_search_levels0_more v_search_levels0_rowOf v_search_levels0_colOf v_search_levels0_below v_search_levels0_face v_search_levels0_worn v_search_levels0_last v_search_levels0_bend v_search_levels0_tall v_search_levels1_rows v_search_levels1_cols v_search_levels1_high v_search_levels1_wide v_search_levels1_folds v_search_levels1_wrong v_search_levels1_more v_search_levels1_rowOf v_search_levels1_colOf v_search_levels1_below v_search_levels1_face v_search_levels1_worn v_search_levels1_last v_search_levels1_bend v_search_levels1_tall v_search_levels2_rows v_search_levels2_cols v_search_levels2_high v_search_levels2_wide v_search_levels2_folds v_search_levels2_wrong v_search_levels2_more v_search_levels2_rowOf v_search_levels2_colOf v_search_levels2_below v_search_levels2_face v_search_levels2_worn v_search_levels2_last v_search_levels2_bend v_search_levels2_tall v_search_levels3_rows v_search_levels3_cols v_search_levels3_high v_search_levels3_wide v_search_levels3_folds v_search_levels3_wrong v_search_levels3_more v_search_levels3_rowOf v_search_levels3_colOf v_search_levels3_below v_search_levels3_face v_search_levels3_worn v_search_levels3_last v_search_levels3_bend v_search_levels3_tall v_search_path v_search_best v_strip_list v_strip_found v_strip_at v_changes_value v_changes_done v_changes_size v_changes_before v_changes_after v_foldings_size v_foldings_ran v_foldings_number v_foldings_kinds v_foldings_trace v_shelves0_holds v_shelves0_body v_shelves0_sort v_shelves0_size v_shelves0_items v_shelves1_holds v_shelves1_body v_shelves1_sort v_shelves1_size v_shelves1_items v_shelves2_holds v_shelves2_body v_shelves2_sort v_shelves2_size v_shelves2_items v_shelves3_holds v_shelves3_body v_shelves3_sort v_shelves3_size v_shelves3_items v_shelves4_holds v_shelves4_body v_shelves4_sort v_shelves4_size v_shelves4_items v_shelves5_holds v_shelves5_body v_shelves5_sort v_shelves5_size v_shelves5_items)) (rest := []) C0 lk_X8_303 (ctX6_hasPart (a := (fun k => a (k + 95))) (d := d - 1) (by omega) hc_170) (by omega) rfl hl.1 rfl (mm_cat rfl) dX8_shift_107 hP hD hA hS rfl rfl [false, false, false, false, false, false, false, false, false, false, false, false, false, false, false, false, false, false, false, false, false, false, false, false, false, false, false, false, false, false, false, false, false, false, false, false, false, false, false, false, false, false, false, false, false, false, false, false, false, false, false, false, false, false, false, false, false, false, false, false, false, false, false, false, false, false, false, false, false, false, false, false, false, false, false, false, false, false, false, false, false, false, false, false, false, false, false, false, false, false, false, false, false, false, false, true, true, false, false] rfl rfl rfl rfl (fun H locs hP hD hS => ?_)
                                  refine W.eq (g2 := F0 m 110 ls [.int (mm_b r_169)]) rfl ?_
                                  refine lv_if_ne (tgt := 116) hx hb dX8_shift_110 (by decide) (fun c_171 => ?_) (fun c_171 => ?_)
                                  · have hf := mm_in hf (mm_b1 c_171)
                                    refine lv_aload hx hb dX8_shift_116 (lv_at hl 1 rfl) ?_
                                    refine mm_get C0 hP iw_X6 89 rfl rfl 4 (by decide) fl_X8_299 rfl dX8_shift_118 ?_
                                    refine lv_iload_n hx hb dX8_shift_121 rfl (lv_at hl 4 rfl) ?_
                                    refine lv_aload hx hb dX8_shift_122 (lv_at hl 0 rfl) ?_
                                    refine mm_get C0 hP iw_X6 95 rfl rfl 4 (by decide) fl_X8_299 rfl dX8_shift_124 ?_
                                    refine lv_iload hx hb dX8_shift_127 (lv_at hl 6 rfl) ?_
                                    refine lv_iload hx hb dX8_shift_129 (lv_at hl 7 rfl) ?_
                                    obtain ⟨h_172, hf⟩ := mm_cks hf
                                    refine mm_copyl C0 la_X8_306 hP hD hS 90 96 rfl rfl h_172 hl.1 (by omega) (mm_cat rfl) dX8_shift_131 (w2 := (wd_X8 cI cL cS cH a v_hasImage v_now_rows v_now_cols v_now_high v_now_wide v_now_folds v_now_wrong v_now_more v_now_rowOf v_now_colOf v_now_below v_now_face v_now_worn v_now_last v_now_bend v_now_tall v_kept_rows v_kept_cols v_kept_high v_kept_wide v_kept_folds v_kept_wrong v_kept_more v_kept_rowOf v_kept_colOf v_kept_below v_kept_face v_kept_worn v_kept_last v_kept_bend v_kept_tall v_wearing_size v_wearing_stepCount v_wearing_draftCount v_wearing_place v_wearing_fault v_wearing_stacked v_wearing_tape v_wearing_steps v_wearing_draft v_wearing_stack v_planned_size v_planned_trial_rows v_planned_trial_cols v_planned_trial_high v_planned_trial_wide v_planned_trial_folds v_planned_trial_wrong v_planned_trial_more v_planned_trial_rowOf v_planned_trial_colOf v_planned_trial_below v_planned_trial_face v_planned_trial_worn v_planned_trial_last v_planned_trial_bend v_planned_trial_tall v_planned_lines v_planned_ways v_search_found v_search_wrong v_search_more v_search_folds v_search_wanted v_search_levels0_rows v_search_levels0_cols v_search_levels0_high v_search_levels0_wide v_search_levels0_folds v_search_levels0_wrong v_search_levels0_more v_search_levels0_rowOf v_search_levels0_colOf v_search_levels0_below v_search_levels0_face v_search_levels0_worn v_search_levels0_last v_search_levels0_bend v_search_levels0_tall v_search_levels1_rows v_search_levels1_cols v_search_levels1_high v_search_levels1_wide v_search_levels1_folds v_search_levels1_wrong v_search_levels1_more v_search_levels1_rowOf v_search_levels1_colOf v_search_levels1_below v_search_levels1_face v_search_levels1_worn v_search_levels1_last v_search_levels1_bend v_search_levels1_tall v_search_levels2_rows v_search_levels2_cols v_search_levels2_high v_search_levels2_wide v_search_levels2_folds v_search_levels2_wrong v_search_levels2_more v_search_levels2_rowOf v_search_levels2_colOf v_search_levels2_below v_search_levels2_face v_search_levels2_worn v_search_levels2_last v_search_levels2_bend v_search_levels2_tall v_search_levels3_rows v_search_levels3_cols v_search_levels3_high v_search_levels3_wide v_search_levels3_folds v_search_levels3_wrong v_search_levels3_more v_search_levels3_rowOf v_search_levels3_colOf v_search_levels3_below v_search_levels3_face v_search_levels3_worn v_search_levels3_last v_search_levels3_bend v_search_levels3_tall v_search_path v_search_best v_strip_list v_strip_found v_strip_at v_changes_value v_changes_done v_changes_size v_changes_before v_changes_after v_foldings_size v_foldings_ran v_foldings_number v_foldings_kinds v_foldings_trace v_shelves0_holds v_shelves0_body v_shelves0_sort v_shelves0_size v_shelves0_items v_shelves1_holds v_shelves1_body v_shelves1_sort v_shelves1_size v_shelves1_items v_shelves2_holds v_shelves2_body v_shelves2_sort v_shelves2_size v_shelves2_items v_shelves3_holds v_shelves3_body v_shelves3_sort v_shelves3_size v_shelves3_items v_shelves4_holds v_shelves4_body v_shelves4_sort v_shelves4_size (mm_cp v_shelves1_items v_shelves4_items x2 x4 x5) v_shelves5_holds v_shelves5_body v_shelves5_sort v_shelves5_size v_shelves5_items)) rfl (fun H locs hP hD hS => ?_)
                                    generalize el_173 : (mm_cp v_shelves1_items v_shelves4_items x2 x4 x5) = l_173 at hP hD
                                    have hf := mm_nms hf el_173.symm
                                    refine lv_iload hx hb dX8_shift_134 (lv_at hl 7 rfl) ?_
                                    apply mm_sub7 hf
                                    exact mm_iret C0 hP hD hS dX8_shift_136
                                  · have hf := mm_ip hf (mm_b0 c_171)
                                    refine lv_bipush (v := -13) hx hb dX8_shift_113 (by decide) ?_
                                    apply mm_sub7 hf
                                    exact mm_iret C0 hP hD hS dX8_shift_115
                            · have hf := mm_in hf c_164
                              refine lv_bipush (v := -12) hx hb dX8_shift_82 (by decide) ?_
                              apply mm_sub7 hf
                              exact mm_iret C0 hP hD hS dX8_shift_84
                      · have hf := mm_ip hf c_161
                        refine lv_bipush (v := -11) hx hb dX8_shift_48 (by decide) ?_
                        apply mm_sub7 hf
                        exact mm_iret C0 hP hD hS dX8_shift_50
                  · have hf := mm_in hf c_159
                    by_cases c_174 : x3 = (5 : Int32)
                    · have hf := mm_ip hf c_174
                      refine mm_aald 3 rfl C0 hP 86 rfl (b := a 97) (by rw [c_174]; rfl) (by rw [c_174]; rfl) dX8_shift_29 ?_
                      refine lv_astore (lv' := [(7, .ref (a 97)), (6, .ref (a 89)), (0, .ref (a 0)), (1, .int x1), (2, .int x2), (3, .int x3), (4, .int x4), (5, .int x5)]) hx hb dX8_shift_30 hl (by decide) rfl (fun ls hl => ?_)
                      refine lv_aload hx hb dX8_shift_32 (lv_at hl 1 rfl) ?_
                      refine mm_get C0 hP iw_X6 89 rfl rfl 0 (by decide) fl_X8_168 rfl dX8_shift_34 ?_
                      refine lv_if_eq (tgt := 48) hx hb dX8_shift_37 (by decide) (fun c_175 => ?_) (fun c_175 => ?_)
                      · have hf := mm_ip hf c_175
                        refine lv_bipush (v := -11) hx hb dX8_shift_48 (by decide) ?_
                        apply mm_sub7 hf
                        exact mm_iret C0 hP hD hS dX8_shift_50
                      · have hf := mm_in hf c_175
                        refine lv_aload hx hb dX8_shift_40 (lv_at hl 0 rfl) ?_
                        refine mm_get C0 hP iw_X6 97 rfl rfl 0 (by decide) fl_X8_168 rfl dX8_shift_42 ?_
                        refine lv_if_ne (tgt := 51) hx hb dX8_shift_45 (by decide) (fun c_176 => ?_) (fun c_176 => ?_)
                        · have hf := mm_in hf c_176
                          refine lv_aload hx hb dX8_shift_51 (lv_at hl 1 rfl) ?_
                          refine mm_get C0 hP iw_X6 89 rfl rfl 0 (by decide) fl_X8_168 rfl dX8_shift_53 ?_
                          refine lv_iconst (v := 2) hx hb dX8_shift_56 (by decide) ?_
                          refine lv_icmp_ne (tgt := 82) hx hb dX8_shift_57 (by decide) (fun c_177 => ?_) (fun c_177 => ?_)
                          · have hf := mm_in hf c_177
                            refine lv_bipush (v := -12) hx hb dX8_shift_82 (by decide) ?_
                            apply mm_sub7 hf
                            exact mm_iret C0 hP hD hS dX8_shift_84
                          · have hf := mm_ip hf c_177
                            refine lv_aload hx hb dX8_shift_60 (lv_at hl 0 rfl) ?_
                            refine mm_get C0 hP iw_X6 97 rfl rfl 0 (by decide) fl_X8_168 rfl dX8_shift_62 ?_
                            refine lv_iconst (v := 2) hx hb dX8_shift_65 (by decide) ?_
                            refine lv_icmp_ne (tgt := 82) hx hb dX8_shift_66 (by decide) (fun c_178 => ?_) (fun c_178 => ?_)
                            · have hf := mm_in hf c_178
                              refine lv_bipush (v := -12) hx hb dX8_shift_82 (by decide) ?_
                              apply mm_sub7 hf
                              exact mm_iret C0 hP hD hS dX8_shift_84
                            · have hf := mm_ip hf c_178
                              refine lv_aload hx hb dX8_shift_69 (lv_at hl 1 rfl) ?_
                              refine mm_get C0 hP iw_X6 89 rfl rfl 2 (by decide) fl_X8_171 rfl dX8_shift_71 ?_
                              refine lv_aload hx hb dX8_shift_74 (lv_at hl 0 rfl) ?_
                              refine mm_get C0 hP iw_X6 97 rfl rfl 2 (by decide) fl_X8_171 rfl dX8_shift_76 ?_
                              refine lv_icmp_eq (tgt := 85) hx hb dX8_shift_79 (by decide) (fun c_179 => ?_) (fun c_179 => ?_)
                              · have hf := mm_ip hf c_179
                                refine lv_iload hx hb dX8_shift_85 (lv_at hl 7 rfl) ?_
                                refine lv_if_lt (tgt := 113) hx hb dX8_shift_87 (by decide) (fun c_180 => ?_) (fun c_180 => ?_)
                                · have hf := mm_ip hf c_180
                                  refine lv_bipush (v := -13) hx hb dX8_shift_113 (by decide) ?_
                                  apply mm_sub7 hf
                                  exact mm_iret C0 hP hD hS dX8_shift_115
                                · have hf := mm_in hf c_180
                                  refine lv_aload hx hb dX8_shift_90 (lv_at hl 1 rfl) ?_
                                  refine lv_iload_n hx hb dX8_shift_92 rfl (lv_at hl 4 rfl) ?_
                                  refine lv_iload hx hb dX8_shift_93 (lv_at hl 7 rfl) ?_
                                  obtain ⟨r_181, hc_182, hf⟩ := mm_bd1s hf
                                  refine mm_callW (q0 := 89) (ci := 6) (w2 := (wd_X8 cI cL cS cH a v_hasImage v_now_rows v_now_cols v_now_high v_now_wide v_now_folds v_now_wrong v_now_more v_now_rowOf v_now_colOf v_now_below v_now_face v_now_worn v_now_last v_now_bend v_now_tall v_kept_rows v_kept_cols v_kept_high v_kept_wide v_kept_folds v_kept_wrong v_kept_more v_kept_rowOf v_kept_colOf v_kept_below v_kept_face v_kept_worn v_kept_last v_kept_bend v_kept_tall v_wearing_size v_wearing_stepCount v_wearing_draftCount v_wearing_place v_wearing_fault v_wearing_stacked v_wearing_tape v_wearing_steps v_wearing_draft v_wearing_stack v_planned_size v_planned_trial_rows v_planned_trial_cols v_planned_trial_high v_planned_trial_wide v_planned_trial_folds v_planned_trial_wrong v_planned_trial_more v_planned_trial_rowOf v_planned_trial_colOf v_planned_trial_below v_planned_trial_face v_planned_trial_worn v_planned_trial_last v_planned_trial_bend v_planned_trial_tall v_planned_lines v_planned_ways v_search_found v_search_wrong v_search_more v_search_folds v_search_wanted v_search_levels0_rows v_search_levels0_cols v_search_levels0_high v_search_levels0_wide v_search_levels0_folds v_search_levels0_wrong v_search_levels0_more v_search_levels0_rowOf v_search_levels0_colOf v_search_levels0_below v_search_levels0_face v_search_levels0_worn v_search_levels0_last v_search_levels0_bend v_search_levels0_tall v_search_levels1_rows v_search_levels1_cols v_search_levels1_high v_search_levels1_wide v_search_levels1_folds v_search_levels1_wrong v_search_levels1_more v_search_levels1_rowOf v_search_levels1_colOf v_search_levels1_below v_search_levels1_face v_search_levels1_worn v_search_levels1_last v_search_levels1_bend v_search_levels1_tall v_search_levels2_rows v_search_levels2_cols v_search_levels2_high v_search_levels2_wide v_search_levels2_folds v_search_levels2_wrong v_search_levels2_more v_search_levels2_rowOf v_search_levels2_colOf v_search_levels2_below v_search_levels2_face v_search_levels2_worn v_search_levels2_last v_search_levels2_bend v_search_levels2_tall v_search_levels3_rows v_search_levels3_cols v_search_levels3_high v_search_levels3_wide v_search_levels3_folds v_search_levels3_wrong v_search_levels3_more v_search_levels3_rowOf v_search_levels3_colOf v_search_levels3_below v_search_levels3_face v_search_levels3_worn v_search_levels3_last v_search_levels3_bend v_search_levels3_tall v_search_path v_search_best v_strip_list v_strip_found v_strip_at v_changes_value v_changes_done v_changes_size v_changes_before v_changes_after v_foldings_size v_foldings_ran v_foldings_number v_foldings_kinds v_foldings_trace v_shelves0_holds v_shelves0_body v_shelves0_sort v_shelves0_size v_shelves0_items v_shelves1_holds v_shelves1_body v_shelves1_sort v_shelves1_size v_shelves1_items v_shelves2_holds v_shelves2_body v_shelves2_sort v_shelves2_size v_shelves2_items v_shelves3_holds v_shelves3_body v_shelves3_sort v_shelves3_size v_shelves3_items v_shelves4_holds v_shelves4_body v_shelves4_sort v_shelves4_size v_shelves4_items v_shelves5_holds v_shelves5_body v_shelves5_sort v_shelves5_size v_shelves5_items)) (rest := []) C0 lk_X8_303 (ctX6_hasPart (a := (fun k => a (k + 89))) (d := d - 1) (by omega) hc_182) (by omega) rfl hl.1 rfl (mm_cat rfl) dX8_shift_95 hP hD hA hS rfl rfl [false, false, false, false, false, false, false, false, false, false, false, false, false, false, false, false, false, false, false, false, false, false, false, false, false, false, false, false, false, false, false, false, false, false, false, false, false, false, false, false, false, false, false, false, false, false, false, false, false, false, false, false, false, false, false, false, false, false, false, false, false, false, false, false, false, false, false, false, false, false, false, false, false, false, false, false, false, false, false, false, false, false, false, false, false, false, false, false, false, true, true, false, false, false, false, false, false, false, false] rfl rfl rfl rfl (fun H locs hP hD hS => ?_)
                                  refine W.eq (g2 := F0 m 98 ls [.int (mm_b r_181)]) rfl ?_
                                  refine lv_if_eq (tgt := 113) hx hb dX8_shift_98 (by decide) (fun c_183 => ?_) (fun c_183 => ?_)
                                  · have hf := mm_ip hf (mm_b0 c_183)
                                    refine lv_bipush (v := -13) hx hb dX8_shift_113 (by decide) ?_
                                    apply mm_sub7 hf
                                    exact mm_iret C0 hP hD hS dX8_shift_115
                                  · have hf := mm_in hf (mm_b1 c_183)
                                    refine lv_aload hx hb dX8_shift_101 (lv_at hl 0 rfl) ?_
                                    refine lv_iload hx hb dX8_shift_103 (lv_at hl 6 rfl) ?_
                                    refine lv_iload hx hb dX8_shift_105 (lv_at hl 7 rfl) ?_
                                    obtain ⟨r_184, hc_185, hf⟩ := mm_bd1s hf
                                    refine mm_callW (q0 := 97) (ci := 6) (w2 := (wd_X8 cI cL cS cH a v_hasImage v_now_rows v_now_cols v_now_high v_now_wide v_now_folds v_now_wrong v_now_more v_now_rowOf v_now_colOf v_now_below v_now_face v_now_worn v_now_last v_now_bend v_now_tall v_kept_rows v_kept_cols v_kept_high v_kept_wide v_kept_folds v_kept_wrong v_kept_more v_kept_rowOf v_kept_colOf v_kept_below v_kept_face v_kept_worn v_kept_last v_kept_bend v_kept_tall v_wearing_size v_wearing_stepCount v_wearing_draftCount v_wearing_place v_wearing_fault v_wearing_stacked v_wearing_tape v_wearing_steps v_wearing_draft v_wearing_stack v_planned_size v_planned_trial_rows v_planned_trial_cols v_planned_trial_high v_planned_trial_wide v_planned_trial_folds v_planned_trial_wrong v_planned_trial_more v_planned_trial_rowOf v_planned_trial_colOf v_planned_trial_below v_planned_trial_face v_planned_trial_worn v_planned_trial_last v_planned_trial_bend v_planned_trial_tall v_planned_lines v_planned_ways v_search_found v_search_wrong v_search_more v_search_folds v_search_wanted v_search_levels0_rows v_search_levels0_cols v_search_levels0_high v_search_levels0_wide v_search_levels0_folds v_search_levels0_wrong v_search_levels0_more v_search_levels0_rowOf v_search_levels0_colOf v_search_levels0_below v_search_levels0_face v_search_levels0_worn v_search_levels0_last v_search_levels0_bend v_search_levels0_tall v_search_levels1_rows v_search_levels1_cols v_search_levels1_high v_search_levels1_wide v_search_levels1_folds v_search_levels1_wrong v_search_levels1_more v_search_levels1_rowOf v_search_levels1_colOf v_search_levels1_below v_search_levels1_face v_search_levels1_worn v_search_levels1_last v_search_levels1_bend v_search_levels1_tall v_search_levels2_rows v_search_levels2_cols v_search_levels2_high v_search_levels2_wide v_search_levels2_folds v_search_levels2_wrong v_search_levels2_more v_search_levels2_rowOf v_search_levels2_colOf v_search_levels2_below v_search_levels2_face v_search_levels2_worn v_search_levels2_last v_search_levels2_bend v_search_levels2_tall v_search_levels3_rows v_search_levels3_cols v_search_levels3_high v_search_levels3_wide v_search_levels3_folds v_search_levels3_wrong v_search_levels3_more v_search_levels3_rowOf v_search_levels3_colOf v_search_levels3_below v_search_levels3_face v_search_levels3_worn v_search_levels3_last v_search_levels3_bend v_search_levels3_tall v_search_path v_search_best v_strip_list v_strip_found v_strip_at v_changes_value v_changes_done v_changes_size v_changes_before v_changes_after v_foldings_size v_foldings_ran v_foldings_number v_foldings_kinds v_foldings_trace v_shelves0_holds v_shelves0_body v_shelves0_sort v_shelves0_size v_shelves0_items v_shelves1_holds v_shelves1_body v_shelves1_sort v_shelves1_size v_shelves1_items v_shelves2_holds v_shelves2_body v_shelves2_sort v_shelves2_size v_shelves2_items v_shelves3_holds v_shelves3_body v_shelves3_sort v_shelves3_size v_shelves3_items v_shelves4_holds v_shelves4_body v_shelves4_sort v_shelves4_size v_shelves4_items v_shelves5_holds v_shelves5_body v_shelves5_sort v_shelves5_size v_shelves5_items)) (rest := []) C0 lk_X8_303 (ctX6_hasPart (a := (fun k => a (k + 97))) (d := d - 1) (by omega) hc_185) (by omega) rfl hl.1 rfl (mm_cat rfl) dX8_shift_107 hP hD hA hS rfl rfl [false, false, false, false, false, false, false, false, false, false, false, false, false, false, false, false, false, false, false, false, false, false, false, false, false, false, false, false, false, false, false, false, false, false, false, false, false, false, false, false, false, false, false, false, false, false, false, false, false, false, false, false, false, false, false, false, false, false, false, false, false, false, false, false, false, false, false, false, false, false, false, false, false, false, false, false, false, false, false, false, false, false, false, false, false, false, false, false, false, false, false, false, false, false, false, false, false, true, true] rfl rfl rfl rfl (fun H locs hP hD hS => ?_)
                                    refine W.eq (g2 := F0 m 110 ls [.int (mm_b r_184)]) rfl ?_
                                    refine lv_if_ne (tgt := 116) hx hb dX8_shift_110 (by decide) (fun c_186 => ?_) (fun c_186 => ?_)
                                    · have hf := mm_in hf (mm_b1 c_186)
                                      refine lv_aload hx hb dX8_shift_116 (lv_at hl 1 rfl) ?_
                                      refine mm_get C0 hP iw_X6 89 rfl rfl 4 (by decide) fl_X8_299 rfl dX8_shift_118 ?_
                                      refine lv_iload_n hx hb dX8_shift_121 rfl (lv_at hl 4 rfl) ?_
                                      refine lv_aload hx hb dX8_shift_122 (lv_at hl 0 rfl) ?_
                                      refine mm_get C0 hP iw_X6 97 rfl rfl 4 (by decide) fl_X8_299 rfl dX8_shift_124 ?_
                                      refine lv_iload hx hb dX8_shift_127 (lv_at hl 6 rfl) ?_
                                      refine lv_iload hx hb dX8_shift_129 (lv_at hl 7 rfl) ?_
                                      obtain ⟨h_187, hf⟩ := mm_cks hf
                                      refine mm_copyl C0 la_X8_306 hP hD hS 90 98 rfl rfl h_187 hl.1 (by omega) (mm_cat rfl) dX8_shift_131 (w2 := (wd_X8 cI cL cS cH a v_hasImage v_now_rows v_now_cols v_now_high v_now_wide v_now_folds v_now_wrong v_now_more v_now_rowOf v_now_colOf v_now_below v_now_face v_now_worn v_now_last v_now_bend v_now_tall v_kept_rows v_kept_cols v_kept_high v_kept_wide v_kept_folds v_kept_wrong v_kept_more v_kept_rowOf v_kept_colOf v_kept_below v_kept_face v_kept_worn v_kept_last v_kept_bend v_kept_tall v_wearing_size v_wearing_stepCount v_wearing_draftCount v_wearing_place v_wearing_fault v_wearing_stacked v_wearing_tape v_wearing_steps v_wearing_draft v_wearing_stack v_planned_size v_planned_trial_rows v_planned_trial_cols v_planned_trial_high v_planned_trial_wide v_planned_trial_folds v_planned_trial_wrong v_planned_trial_more v_planned_trial_rowOf v_planned_trial_colOf v_planned_trial_below v_planned_trial_face v_planned_trial_worn v_planned_trial_last v_planned_trial_bend v_planned_trial_tall v_planned_lines v_planned_ways v_search_found v_search_wrong v_search_more v_search_folds v_search_wanted v_search_levels0_rows v_search_levels0_cols v_search_levels0_high v_search_levels0_wide v_search_levels0_folds v_search_levels0_wrong v_search_levels0_more v_search_levels0_rowOf v_search_levels0_colOf v_search_levels0_below v_search_levels0_face v_search_levels0_worn v_search_levels0_last v_search_levels0_bend v_search_levels0_tall v_search_levels1_rows v_search_levels1_cols v_search_levels1_high v_search_levels1_wide v_search_levels1_folds v_search_levels1_wrong v_search_levels1_more v_search_levels1_rowOf v_search_levels1_colOf v_search_levels1_below v_search_levels1_face v_search_levels1_worn v_search_levels1_last v_search_levels1_bend v_search_levels1_tall v_search_levels2_rows v_search_levels2_cols v_search_levels2_high v_search_levels2_wide v_search_levels2_folds v_search_levels2_wrong v_search_levels2_more v_search_levels2_rowOf v_search_levels2_colOf v_search_levels2_below v_search_levels2_face v_search_levels2_worn v_search_levels2_last v_search_levels2_bend v_search_levels2_tall v_search_levels3_rows v_search_levels3_cols v_search_levels3_high v_search_levels3_wide v_search_levels3_folds v_search_levels3_wrong v_search_levels3_more v_search_levels3_rowOf v_search_levels3_colOf v_search_levels3_below v_search_levels3_face v_search_levels3_worn v_search_levels3_last v_search_levels3_bend v_search_levels3_tall v_search_path v_search_best v_strip_list v_strip_found v_strip_at v_changes_value v_changes_done v_changes_size v_changes_before v_changes_after v_foldings_size v_foldings_ran v_foldings_number v_foldings_kinds v_foldings_trace v_shelves0_holds v_shelves0_body v_shelves0_sort v_shelves0_size v_shelves0_items v_shelves1_holds v_shelves1_body v_shelves1_sort v_shelves1_size v_shelves1_items v_shelves2_holds v_shelves2_body v_shelves2_sort v_shelves2_size v_shelves2_items v_shelves3_holds v_shelves3_body v_shelves3_sort v_shelves3_size v_shelves3_items v_shelves4_holds v_shelves4_body v_shelves4_sort v_shelves4_size v_shelves4_items v_shelves5_holds v_shelves5_body v_shelves5_sort v_shelves5_size (mm_cp v_shelves1_items v_shelves5_items x2 x4 x5))) rfl (fun H locs hP hD hS => ?_)
                                      generalize el_188 : (mm_cp v_shelves1_items v_shelves5_items x2 x4 x5) = l_188 at hP hD
                                      have hf := mm_nms hf el_188.symm
                                      refine lv_iload hx hb dX8_shift_134 (lv_at hl 7 rfl) ?_
                                      apply mm_sub7 hf
                                      exact mm_iret C0 hP hD hS dX8_shift_136
                                    · have hf := mm_ip hf (mm_b0 c_186)
                                      refine lv_bipush (v := -13) hx hb dX8_shift_113 (by decide) ?_
                                      apply mm_sub7 hf
                                      exact mm_iret C0 hP hD hS dX8_shift_115
                              · have hf := mm_in hf c_179
                                refine lv_bipush (v := -12) hx hb dX8_shift_82 (by decide) ?_
                                apply mm_sub7 hf
                                exact mm_iret C0 hP hD hS dX8_shift_84
                        · have hf := mm_ip hf c_176
                          refine lv_bipush (v := -11) hx hb dX8_shift_48 (by decide) ?_
                          apply mm_sub7 hf
                          exact mm_iret C0 hP hD hS dX8_shift_50
                    · have hf := mm_in hf c_174
                      cases hf
        · have hf := mm_in hf c_98
          by_cases c_189 : x1 = (2 : Int32)
          · have hf := mm_ip hf c_189
            refine mm_aald 3 rfl C0 hP 86 rfl (b := a 91) (by rw [c_189]; rfl) (by rw [c_189]; rfl) dX8_shift_21 ?_
            refine lv_astore (lv' := [(6, .ref (a 91)), (0, .ref (a 0)), (1, .int x1), (2, .int x2), (3, .int x3), (4, .int x4), (5, .int x5)]) hx hb dX8_shift_22 hl (by decide) rfl (fun ls hl => ?_)
            refine lv_aload_n hx hb dX8_shift_24 rfl (lv_at hl 1 rfl) ?_
            refine mm_get C0 hP iw_X8 0 rfl rfl 8 (by decide) fl_X8_63 rfl dX8_shift_25 ?_
            refine lv_iload_n hx hb dX8_shift_28 rfl (lv_at hl 4 rfl) ?_
            by_cases c_190 : x3 = (0 : Int32)
            · have hf := mm_ip hf c_190
              refine mm_aald 3 rfl C0 hP 86 rfl (b := a 87) (by rw [c_190]; rfl) (by rw [c_190]; rfl) dX8_shift_29 ?_
              refine lv_astore (lv' := [(7, .ref (a 87)), (6, .ref (a 91)), (0, .ref (a 0)), (1, .int x1), (2, .int x2), (3, .int x3), (4, .int x4), (5, .int x5)]) hx hb dX8_shift_30 hl (by decide) rfl (fun ls hl => ?_)
              refine lv_aload hx hb dX8_shift_32 (lv_at hl 1 rfl) ?_
              refine mm_get C0 hP iw_X6 91 rfl rfl 0 (by decide) fl_X8_168 rfl dX8_shift_34 ?_
              refine lv_if_eq (tgt := 48) hx hb dX8_shift_37 (by decide) (fun c_191 => ?_) (fun c_191 => ?_)
              · have hf := mm_ip hf c_191
                refine lv_bipush (v := -11) hx hb dX8_shift_48 (by decide) ?_
                apply mm_sub7 hf
                exact mm_iret C0 hP hD hS dX8_shift_50
              · have hf := mm_in hf c_191
                refine lv_aload hx hb dX8_shift_40 (lv_at hl 0 rfl) ?_
                refine mm_get C0 hP iw_X6 87 rfl rfl 0 (by decide) fl_X8_168 rfl dX8_shift_42 ?_
                refine lv_if_ne (tgt := 51) hx hb dX8_shift_45 (by decide) (fun c_192 => ?_) (fun c_192 => ?_)
                · have hf := mm_in hf c_192
                  refine lv_aload hx hb dX8_shift_51 (lv_at hl 1 rfl) ?_
                  refine mm_get C0 hP iw_X6 91 rfl rfl 0 (by decide) fl_X8_168 rfl dX8_shift_53 ?_
                  refine lv_iconst (v := 2) hx hb dX8_shift_56 (by decide) ?_
                  refine lv_icmp_ne (tgt := 82) hx hb dX8_shift_57 (by decide) (fun c_193 => ?_) (fun c_193 => ?_)
                  · have hf := mm_in hf c_193
                    refine lv_bipush (v := -12) hx hb dX8_shift_82 (by decide) ?_
                    apply mm_sub7 hf
                    exact mm_iret C0 hP hD hS dX8_shift_84
                  · have hf := mm_ip hf c_193
                    refine lv_aload hx hb dX8_shift_60 (lv_at hl 0 rfl) ?_
                    refine mm_get C0 hP iw_X6 87 rfl rfl 0 (by decide) fl_X8_168 rfl dX8_shift_62 ?_
                    refine lv_iconst (v := 2) hx hb dX8_shift_65 (by decide) ?_
                    refine lv_icmp_ne (tgt := 82) hx hb dX8_shift_66 (by decide) (fun c_194 => ?_) (fun c_194 => ?_)
                    · have hf := mm_in hf c_194
                      refine lv_bipush (v := -12) hx hb dX8_shift_82 (by decide) ?_
                      apply mm_sub7 hf
                      exact mm_iret C0 hP hD hS dX8_shift_84
                    · have hf := mm_ip hf c_194
                      refine lv_aload hx hb dX8_shift_69 (lv_at hl 1 rfl) ?_
                      refine mm_get C0 hP iw_X6 91 rfl rfl 2 (by decide) fl_X8_171 rfl dX8_shift_71 ?_
                      refine lv_aload hx hb dX8_shift_74 (lv_at hl 0 rfl) ?_
                      refine mm_get C0 hP iw_X6 87 rfl rfl 2 (by decide) fl_X8_171 rfl dX8_shift_76 ?_
                      refine lv_icmp_eq (tgt := 85) hx hb dX8_shift_79 (by decide) (fun c_195 => ?_) (fun c_195 => ?_)
                      · have hf := mm_ip hf c_195
                        refine lv_iload hx hb dX8_shift_85 (lv_at hl 7 rfl) ?_
                        refine lv_if_lt (tgt := 113) hx hb dX8_shift_87 (by decide) (fun c_196 => ?_) (fun c_196 => ?_)
                        · have hf := mm_ip hf c_196
                          refine lv_bipush (v := -13) hx hb dX8_shift_113 (by decide) ?_
                          apply mm_sub7 hf
                          exact mm_iret C0 hP hD hS dX8_shift_115
                        · have hf := mm_in hf c_196
                          refine lv_aload hx hb dX8_shift_90 (lv_at hl 1 rfl) ?_
                          refine lv_iload_n hx hb dX8_shift_92 rfl (lv_at hl 4 rfl) ?_
                          refine lv_iload hx hb dX8_shift_93 (lv_at hl 7 rfl) ?_
                          obtain ⟨r_197, hc_198, hf⟩ := mm_bd1s hf
                          refine mm_callW (q0 := 91) (ci := 6) (w2 := (wd_X8 cI cL cS cH a v_hasImage v_now_rows v_now_cols v_now_high v_now_wide v_now_folds v_now_wrong v_now_more v_now_rowOf v_now_colOf v_now_below v_now_face v_now_worn v_now_last v_now_bend v_now_tall v_kept_rows v_kept_cols v_kept_high v_kept_wide v_kept_folds v_kept_wrong v_kept_more v_kept_rowOf v_kept_colOf v_kept_below v_kept_face v_kept_worn v_kept_last v_kept_bend v_kept_tall v_wearing_size v_wearing_stepCount v_wearing_draftCount v_wearing_place v_wearing_fault v_wearing_stacked v_wearing_tape v_wearing_steps v_wearing_draft v_wearing_stack v_planned_size v_planned_trial_rows v_planned_trial_cols v_planned_trial_high v_planned_trial_wide v_planned_trial_folds v_planned_trial_wrong v_planned_trial_more v_planned_trial_rowOf v_planned_trial_colOf v_planned_trial_below v_planned_trial_face v_planned_trial_worn v_planned_trial_last v_planned_trial_bend v_planned_trial_tall v_planned_lines v_planned_ways v_search_found v_search_wrong v_search_more v_search_folds v_search_wanted v_search_levels0_rows v_search_levels0_cols v_search_levels0_high v_search_levels0_wide v_search_levels0_folds v_search_levels0_wrong v_search_levels0_more v_search_levels0_rowOf v_search_levels0_colOf v_search_levels0_below v_search_levels0_face v_search_levels0_worn v_search_levels0_last v_search_levels0_bend v_search_levels0_tall v_search_levels1_rows v_search_levels1_cols v_search_levels1_high v_search_levels1_wide v_search_levels1_folds v_search_levels1_wrong v_search_levels1_more v_search_levels1_rowOf v_search_levels1_colOf v_search_levels1_below v_search_levels1_face v_search_levels1_worn v_search_levels1_last v_search_levels1_bend v_search_levels1_tall v_search_levels2_rows v_search_levels2_cols v_search_levels2_high v_search_levels2_wide v_search_levels2_folds v_search_levels2_wrong v_search_levels2_more v_search_levels2_rowOf v_search_levels2_colOf v_search_levels2_below v_search_levels2_face v_search_levels2_worn v_search_levels2_last v_search_levels2_bend v_search_levels2_tall v_search_levels3_rows v_search_levels3_cols v_search_levels3_high v_search_levels3_wide v_search_levels3_folds v_search_levels3_wrong v_search_levels3_more v_search_levels3_rowOf v_search_levels3_colOf v_search_levels3_below v_search_levels3_face v_search_levels3_worn v_search_levels3_last v_search_levels3_bend v_search_levels3_tall v_search_path v_search_best v_strip_list v_strip_found v_strip_at v_changes_value v_changes_done v_changes_size v_changes_before v_changes_after v_foldings_size v_foldings_ran v_foldings_number v_foldings_kinds v_foldings_trace v_shelves0_holds v_shelves0_body v_shelves0_sort v_shelves0_size v_shelves0_items v_shelves1_holds v_shelves1_body v_shelves1_sort v_shelves1_size v_shelves1_items v_shelves2_holds v_shelves2_body v_shelves2_sort v_shelves2_size v_shelves2_items v_shelves3_holds v_shelves3_body v_shelves3_sort v_shelves3_size v_shelves3_items v_shelves4_holds v_shelves4_body v_shelves4_sort v_shelves4_size v_shelves4_items v_shelves5_holds v_shelves5_body v_shelves5_sort v_shelves5_size v_shelves5_items)) (rest := []) C0 lk_X8_303 (ctX6_hasPart (a := (fun k => a (k + 91))) (d := d - 1) (by omega) hc_198) (by omega) rfl hl.1 rfl (mm_cat rfl) dX8_shift_95 hP hD hA hS rfl rfl [false, false, false, false, false, false, false, false, false, false, false, false, false, false, false, false, false, false, false, false, false, false, false, false, false, false, false, false, false, false, false, false, false, false, false, false, false, false, false, false, false, false, false, false, false, false, false, false, false, false, false, false, false, false, false, false, false, false, false, false, false, false, false, false, false, false, false, false, false, false, false, false, false, false, false, false, false, false, false, false, false, false, false, false, false, false, false, false, false, false, false, true, true, false, false, false, false, false, false] rfl rfl rfl rfl (fun H locs hP hD hS => ?_)
                          refine W.eq (g2 := F0 m 98 ls [.int (mm_b r_197)]) rfl ?_
                          refine lv_if_eq (tgt := 113) hx hb dX8_shift_98 (by decide) (fun c_199 => ?_) (fun c_199 => ?_)
                          · have hf := mm_ip hf (mm_b0 c_199)
                            refine lv_bipush (v := -13) hx hb dX8_shift_113 (by decide) ?_
                            apply mm_sub7 hf
                            exact mm_iret C0 hP hD hS dX8_shift_115
                          · have hf := mm_in hf (mm_b1 c_199)
                            refine lv_aload hx hb dX8_shift_101 (lv_at hl 0 rfl) ?_
                            refine lv_iload hx hb dX8_shift_103 (lv_at hl 6 rfl) ?_
                            refine lv_iload hx hb dX8_shift_105 (lv_at hl 7 rfl) ?_
                            obtain ⟨r_200, hc_201, hf⟩ := mm_bd1s hf
                            refine mm_callW (q0 := 87) (ci := 6) (w2 := (wd_X8 cI cL cS cH a v_hasImage v_now_rows v_now_cols v_now_high v_now_wide v_now_folds v_now_wrong v_now_more v_now_rowOf v_now_colOf v_now_below v_now_face v_now_worn v_now_last v_now_bend v_now_tall v_kept_rows v_kept_cols v_kept_high v_kept_wide v_kept_folds v_kept_wrong v_kept_more v_kept_rowOf v_kept_colOf v_kept_below v_kept_face v_kept_worn v_kept_last v_kept_bend v_kept_tall v_wearing_size v_wearing_stepCount v_wearing_draftCount v_wearing_place v_wearing_fault v_wearing_stacked v_wearing_tape v_wearing_steps v_wearing_draft v_wearing_stack v_planned_size v_planned_trial_rows v_planned_trial_cols v_planned_trial_high v_planned_trial_wide v_planned_trial_folds v_planned_trial_wrong v_planned_trial_more v_planned_trial_rowOf v_planned_trial_colOf v_planned_trial_below v_planned_trial_face v_planned_trial_worn v_planned_trial_last v_planned_trial_bend v_planned_trial_tall v_planned_lines v_planned_ways v_search_found v_search_wrong v_search_more v_search_folds v_search_wanted v_search_levels0_rows v_search_levels0_cols v_search_levels0_high v_search_levels0_wide v_search_levels0_folds v_search_levels0_wrong v_search_levels0_more v_search_levels0_rowOf v_search_levels0_colOf v_search_levels0_below v_search_levels0_face v_search_levels0_worn v_search_levels0_last v_search_levels0_bend v_search_levels0_tall v_search_levels1_rows v_search_levels1_cols v_search_levels1_high v_search_levels1_wide v_search_levels1_folds v_search_levels1_wrong v_search_levels1_more v_search_levels1_rowOf v_search_levels1_colOf v_search_levels1_below v_search_levels1_face v_search_levels1_worn v_search_levels1_last v_search_levels1_bend v_search_levels1_tall v_search_levels2_rows v_search_levels2_cols v_search_levels2_high v_search_levels2_wide v_search_levels2_folds v_search_levels2_wrong v_search_levels2_more v_search_levels2_rowOf v_search_levels2_colOf v_search_levels2_below v_search_levels2_face v_search_levels2_worn v_search_levels2_last v_search_levels2_bend v_search_levels2_tall v_search_levels3_rows v_search_levels3_cols v_search_levels3_high v_search_levels3_wide v_search_levels3_folds v_search_levels3_wrong v_search_levels3_more v_search_levels3_rowOf v_search_levels3_colOf v_search_levels3_below v_search_levels3_face v_search_levels3_worn v_search_levels3_last v_search_levels3_bend v_search_levels3_tall v_search_path v_search_best v_strip_list v_strip_found v_strip_at v_changes_value v_changes_done v_changes_size v_changes_before v_changes_after v_foldings_size v_foldings_ran v_foldings_number v_foldings_kinds v_foldings_trace v_shelves0_holds v_shelves0_body v_shelves0_sort v_shelves0_size v_shelves0_items v_shelves1_holds v_shelves1_body v_shelves1_sort v_shelves1_size v_shelves1_items v_shelves2_holds v_shelves2_body v_shelves2_sort v_shelves2_size v_shelves2_items v_shelves3_holds v_shelves3_body v_shelves3_sort v_shelves3_size v_shelves3_items v_shelves4_holds v_shelves4_body v_shelves4_sort v_shelves4_size v_shelves4_items v_shelves5_holds v_shelves5_body v_shelves5_sort v_shelves5_size v_shelves5_items)) (rest := []) C0 lk_X8_303 (ctX6_hasPart (a := (fun k => a (k + 87))) (d := d - 1) (by omega) hc_201) (by omega) rfl hl.1 rfl (mm_cat rfl) dX8_shift_107 hP hD hA hS rfl rfl [false, false, false, false, false, false, false, false, false, false, false, false, false, false, false, false, false, false, false, false, false, false, false, false, false, false, false, false, false, false, false, false, false, false, false, false, false, false, false, false, false, false, false, false, false, false, false, false, false, false, false, false, false, false, false, false, false, false, false, false, false, false, false, false, false, false, false, false, false, false, false, false, false, false, false, false, false, false, false, false, false, false, false, false, false, false, false, true, true, false, false, false, false, false, false, false, false, false, false] rfl rfl rfl rfl (fun H locs hP hD hS => ?_)
                            refine W.eq (g2 := F0 m 110 ls [.int (mm_b r_200)]) rfl ?_
                            refine lv_if_ne (tgt := 116) hx hb dX8_shift_110 (by decide) (fun c_202 => ?_) (fun c_202 => ?_)
                            · have hf := mm_in hf (mm_b1 c_202)
                              refine lv_aload hx hb dX8_shift_116 (lv_at hl 1 rfl) ?_
                              refine mm_get C0 hP iw_X6 91 rfl rfl 4 (by decide) fl_X8_299 rfl dX8_shift_118 ?_
                              refine lv_iload_n hx hb dX8_shift_121 rfl (lv_at hl 4 rfl) ?_
                              refine lv_aload hx hb dX8_shift_122 (lv_at hl 0 rfl) ?_
                              refine mm_get C0 hP iw_X6 87 rfl rfl 4 (by decide) fl_X8_299 rfl dX8_shift_124 ?_
                              refine lv_iload hx hb dX8_shift_127 (lv_at hl 6 rfl) ?_
                              refine lv_iload hx hb dX8_shift_129 (lv_at hl 7 rfl) ?_
                              obtain ⟨h_203, hf⟩ := mm_cks hf
                              refine mm_copyl C0 la_X8_306 hP hD hS 92 88 rfl rfl h_203 hl.1 (by omega) (mm_cat rfl) dX8_shift_131 (w2 := (wd_X8 cI cL cS cH a v_hasImage v_now_rows v_now_cols v_now_high v_now_wide v_now_folds v_now_wrong v_now_more v_now_rowOf v_now_colOf v_now_below v_now_face v_now_worn v_now_last v_now_bend v_now_tall v_kept_rows v_kept_cols v_kept_high v_kept_wide v_kept_folds v_kept_wrong v_kept_more v_kept_rowOf v_kept_colOf v_kept_below v_kept_face v_kept_worn v_kept_last v_kept_bend v_kept_tall v_wearing_size v_wearing_stepCount v_wearing_draftCount v_wearing_place v_wearing_fault v_wearing_stacked v_wearing_tape v_wearing_steps v_wearing_draft v_wearing_stack v_planned_size v_planned_trial_rows v_planned_trial_cols v_planned_trial_high v_planned_trial_wide v_planned_trial_folds v_planned_trial_wrong v_planned_trial_more v_planned_trial_rowOf v_planned_trial_colOf v_planned_trial_below v_planned_trial_face v_planned_trial_worn v_planned_trial_last v_planned_trial_bend v_planned_trial_tall v_planned_lines v_planned_ways v_search_found v_search_wrong v_search_more v_search_folds v_search_wanted v_search_levels0_rows v_search_levels0_cols v_search_levels0_high v_search_levels0_wide v_search_levels0_folds v_search_levels0_wrong v_search_levels0_more v_search_levels0_rowOf v_search_levels0_colOf v_search_levels0_below v_search_levels0_face v_search_levels0_worn v_search_levels0_last v_search_levels0_bend v_search_levels0_tall v_search_levels1_rows v_search_levels1_cols v_search_levels1_high v_search_levels1_wide v_search_levels1_folds v_search_levels1_wrong v_search_levels1_more v_search_levels1_rowOf v_search_levels1_colOf v_search_levels1_below v_search_levels1_face v_search_levels1_worn v_search_levels1_last v_search_levels1_bend v_search_levels1_tall v_search_levels2_rows v_search_levels2_cols v_search_levels2_high v_search_levels2_wide v_search_levels2_folds v_search_levels2_wrong v_search_levels2_more v_search_levels2_rowOf v_search_levels2_colOf v_search_levels2_below v_search_levels2_face v_search_levels2_worn v_search_levels2_last v_search_levels2_bend v_search_levels2_tall v_search_levels3_rows v_search_levels3_cols v_search_levels3_high v_search_levels3_wide v_search_levels3_folds v_search_levels3_wrong v_search_levels3_more v_search_levels3_rowOf v_search_levels3_colOf v_search_levels3_below v_search_levels3_face v_search_levels3_worn v_search_levels3_last v_search_levels3_bend v_search_levels3_tall v_search_path v_search_best v_strip_list v_strip_found v_strip_at v_changes_value v_changes_done v_changes_size v_changes_before v_changes_after v_foldings_size v_foldings_ran v_foldings_number v_foldings_kinds v_foldings_trace v_shelves0_holds v_shelves0_body v_shelves0_sort v_shelves0_size (mm_cp v_shelves2_items v_shelves0_items x2 x4 x5) v_shelves1_holds v_shelves1_body v_shelves1_sort v_shelves1_size v_shelves1_items v_shelves2_holds v_shelves2_body v_shelves2_sort v_shelves2_size v_shelves2_items v_shelves3_holds v_shelves3_body v_shelves3_sort v_shelves3_size v_shelves3_items v_shelves4_holds v_shelves4_body v_shelves4_sort v_shelves4_size v_shelves4_items v_shelves5_holds v_shelves5_body v_shelves5_sort v_shelves5_size v_shelves5_items)) rfl (fun H locs hP hD hS => ?_)
                              generalize el_204 : (mm_cp v_shelves2_items v_shelves0_items x2 x4 x5) = l_204 at hP hD
                              have hf := mm_nms hf el_204.symm
                              refine lv_iload hx hb dX8_shift_134 (lv_at hl 7 rfl) ?_
                              apply mm_sub7 hf
                              exact mm_iret C0 hP hD hS dX8_shift_136
                            · have hf := mm_ip hf (mm_b0 c_202)
                              refine lv_bipush (v := -13) hx hb dX8_shift_113 (by decide) ?_
                              apply mm_sub7 hf
                              exact mm_iret C0 hP hD hS dX8_shift_115
                      · have hf := mm_in hf c_195
                        refine lv_bipush (v := -12) hx hb dX8_shift_82 (by decide) ?_
                        apply mm_sub7 hf
                        exact mm_iret C0 hP hD hS dX8_shift_84
                · have hf := mm_ip hf c_192
                  refine lv_bipush (v := -11) hx hb dX8_shift_48 (by decide) ?_
                  apply mm_sub7 hf
                  exact mm_iret C0 hP hD hS dX8_shift_50
            · have hf := mm_in hf c_190
              by_cases c_205 : x3 = (1 : Int32)
              · have hf := mm_ip hf c_205
                refine mm_aald 3 rfl C0 hP 86 rfl (b := a 89) (by rw [c_205]; rfl) (by rw [c_205]; rfl) dX8_shift_29 ?_
                refine lv_astore (lv' := [(7, .ref (a 89)), (6, .ref (a 91)), (0, .ref (a 0)), (1, .int x1), (2, .int x2), (3, .int x3), (4, .int x4), (5, .int x5)]) hx hb dX8_shift_30 hl (by decide) rfl (fun ls hl => ?_)
                refine lv_aload hx hb dX8_shift_32 (lv_at hl 1 rfl) ?_
                refine mm_get C0 hP iw_X6 91 rfl rfl 0 (by decide) fl_X8_168 rfl dX8_shift_34 ?_
                refine lv_if_eq (tgt := 48) hx hb dX8_shift_37 (by decide) (fun c_206 => ?_) (fun c_206 => ?_)
                · have hf := mm_ip hf c_206
                  refine lv_bipush (v := -11) hx hb dX8_shift_48 (by decide) ?_
                  apply mm_sub7 hf
                  exact mm_iret C0 hP hD hS dX8_shift_50
                · have hf := mm_in hf c_206
                  refine lv_aload hx hb dX8_shift_40 (lv_at hl 0 rfl) ?_
                  refine mm_get C0 hP iw_X6 89 rfl rfl 0 (by decide) fl_X8_168 rfl dX8_shift_42 ?_
                  refine lv_if_ne (tgt := 51) hx hb dX8_shift_45 (by decide) (fun c_207 => ?_) (fun c_207 => ?_)
                  · have hf := mm_in hf c_207
                    refine lv_aload hx hb dX8_shift_51 (lv_at hl 1 rfl) ?_
                    refine mm_get C0 hP iw_X6 91 rfl rfl 0 (by decide) fl_X8_168 rfl dX8_shift_53 ?_
                    refine lv_iconst (v := 2) hx hb dX8_shift_56 (by decide) ?_
                    refine lv_icmp_ne (tgt := 82) hx hb dX8_shift_57 (by decide) (fun c_208 => ?_) (fun c_208 => ?_)
                    · have hf := mm_in hf c_208
                      refine lv_bipush (v := -12) hx hb dX8_shift_82 (by decide) ?_
                      apply mm_sub7 hf
                      exact mm_iret C0 hP hD hS dX8_shift_84
                    · have hf := mm_ip hf c_208
                      refine lv_aload hx hb dX8_shift_60 (lv_at hl 0 rfl) ?_
                      refine mm_get C0 hP iw_X6 89 rfl rfl 0 (by decide) fl_X8_168 rfl dX8_shift_62 ?_
                      refine lv_iconst (v := 2) hx hb dX8_shift_65 (by decide) ?_
                      refine lv_icmp_ne (tgt := 82) hx hb dX8_shift_66 (by decide) (fun c_209 => ?_) (fun c_209 => ?_)
                      · have hf := mm_in hf c_209
                        refine lv_bipush (v := -12) hx hb dX8_shift_82 (by decide) ?_
                        apply mm_sub7 hf
                        exact mm_iret C0 hP hD hS dX8_shift_84
                      · have hf := mm_ip hf c_209
                        refine lv_aload hx hb dX8_shift_69 (lv_at hl 1 rfl) ?_
                        refine mm_get C0 hP iw_X6 91 rfl rfl 2 (by decide) fl_X8_171 rfl dX8_shift_71 ?_
                        refine lv_aload hx hb dX8_shift_74 (lv_at hl 0 rfl) ?_
                        refine mm_get C0 hP iw_X6 89 rfl rfl 2 (by decide) fl_X8_171 rfl dX8_shift_76 ?_
                        refine lv_icmp_eq (tgt := 85) hx hb dX8_shift_79 (by decide) (fun c_210 => ?_) (fun c_210 => ?_)
                        · have hf := mm_ip hf c_210
                          refine lv_iload hx hb dX8_shift_85 (lv_at hl 7 rfl) ?_
                          refine lv_if_lt (tgt := 113) hx hb dX8_shift_87 (by decide) (fun c_211 => ?_) (fun c_211 => ?_)
                          · have hf := mm_ip hf c_211
                            refine lv_bipush (v := -13) hx hb dX8_shift_113 (by decide) ?_
                            apply mm_sub7 hf
                            exact mm_iret C0 hP hD hS dX8_shift_115
                          · have hf := mm_in hf c_211
                            refine lv_aload hx hb dX8_shift_90 (lv_at hl 1 rfl) ?_
                            refine lv_iload_n hx hb dX8_shift_92 rfl (lv_at hl 4 rfl) ?_
                            refine lv_iload hx hb dX8_shift_93 (lv_at hl 7 rfl) ?_
                            obtain ⟨r_212, hc_213, hf⟩ := mm_bd1s hf
                            refine mm_callW (q0 := 91) (ci := 6) (w2 := (wd_X8 cI cL cS cH a v_hasImage v_now_rows v_now_cols v_now_high v_now_wide v_now_folds v_now_wrong v_now_more v_now_rowOf v_now_colOf v_now_below v_now_face v_now_worn v_now_last v_now_bend v_now_tall v_kept_rows v_kept_cols v_kept_high v_kept_wide v_kept_folds v_kept_wrong v_kept_more v_kept_rowOf v_kept_colOf v_kept_below v_kept_face v_kept_worn v_kept_last v_kept_bend v_kept_tall v_wearing_size v_wearing_stepCount v_wearing_draftCount v_wearing_place v_wearing_fault v_wearing_stacked v_wearing_tape v_wearing_steps v_wearing_draft v_wearing_stack v_planned_size v_planned_trial_rows v_planned_trial_cols v_planned_trial_high v_planned_trial_wide v_planned_trial_folds v_planned_trial_wrong v_planned_trial_more v_planned_trial_rowOf v_planned_trial_colOf v_planned_trial_below v_planned_trial_face v_planned_trial_worn v_planned_trial_last v_planned_trial_bend v_planned_trial_tall v_planned_lines v_planned_ways v_search_found v_search_wrong v_search_more v_search_folds v_search_wanted v_search_levels0_rows v_search_levels0_cols v_search_levels0_high v_search_levels0_wide v_search_levels0_folds v_search_levels0_wrong v_search_levels0_more v_search_levels0_rowOf v_search_levels0_colOf v_search_levels0_below v_search_levels0_face v_search_levels0_worn v_search_levels0_last v_search_levels0_bend v_search_levels0_tall v_search_levels1_rows v_search_levels1_cols v_search_levels1_high v_search_levels1_wide v_search_levels1_folds v_search_levels1_wrong v_search_levels1_more v_search_levels1_rowOf v_search_levels1_colOf v_search_levels1_below v_search_levels1_face v_search_levels1_worn v_search_levels1_last v_search_levels1_bend v_search_levels1_tall v_search_levels2_rows v_search_levels2_cols v_search_levels2_high v_search_levels2_wide v_search_levels2_folds v_search_levels2_wrong v_search_levels2_more v_search_levels2_rowOf v_search_levels2_colOf v_search_levels2_below v_search_levels2_face v_search_levels2_worn v_search_levels2_last v_search_levels2_bend v_search_levels2_tall v_search_levels3_rows v_search_levels3_cols v_search_levels3_high v_search_levels3_wide v_search_levels3_folds v_search_levels3_wrong v_search_levels3_more v_search_levels3_rowOf v_search_levels3_colOf v_search_levels3_below v_search_levels3_face v_search_levels3_worn v_search_levels3_last v_search_levels3_bend v_search_levels3_tall v_search_path v_search_best v_strip_list v_strip_found v_strip_at v_changes_value v_changes_done v_changes_size v_changes_before v_changes_after v_foldings_size v_foldings_ran v_foldings_number v_foldings_kinds v_foldings_trace v_shelves0_holds v_shelves0_body v_shelves0_sort v_shelves0_size v_shelves0_items v_shelves1_holds v_shelves1_body v_shelves1_sort v_shelves1_size v_shelves1_items v_shelves2_holds v_shelves2_body v_shelves2_sort v_shelves2_size v_shelves2_items v_shelves3_holds v_shelves3_body v_shelves3_sort v_shelves3_size v_shelves3_items v_shelves4_holds v_shelves4_body v_shelves4_sort v_shelves4_size v_shelves4_items v_shelves5_holds v_shelves5_body v_shelves5_sort v_shelves5_size v_shelves5_items)) (rest := []) C0 lk_X8_303 (ctX6_hasPart (a := (fun k => a (k + 91))) (d := d - 1) (by omega) hc_213) (by omega) rfl hl.1 rfl (mm_cat rfl) dX8_shift_95 hP hD hA hS rfl rfl [false, false, false, false, false, false, false, false, false, false, false, false, false, false, false, false, false, false, false, false, false, false, false, false, false, false, false, false, false, false, false, false, false, false, false, false, false, false, false, false, false, false, false, false, false, false, false, false, false, false, false, false, false, false, false, false, false, false, false, false, false, false, false, false, false, false, false, false, false, false, false, false, false, false, false, false, false, false, false, false, false, false, false, false, false, false, false, false, false, false, false, true, true, false, false, false, false, false, false] rfl rfl rfl rfl (fun H locs hP hD hS => ?_)
                            refine W.eq (g2 := F0 m 98 ls [.int (mm_b r_212)]) rfl ?_
                            refine lv_if_eq (tgt := 113) hx hb dX8_shift_98 (by decide) (fun c_214 => ?_) (fun c_214 => ?_)
                            · have hf := mm_ip hf (mm_b0 c_214)
                              refine lv_bipush (v := -13) hx hb dX8_shift_113 (by decide) ?_
                              apply mm_sub7 hf
                              exact mm_iret C0 hP hD hS dX8_shift_115
                            · have hf := mm_in hf (mm_b1 c_214)
                              refine lv_aload hx hb dX8_shift_101 (lv_at hl 0 rfl) ?_
                              refine lv_iload hx hb dX8_shift_103 (lv_at hl 6 rfl) ?_
                              refine lv_iload hx hb dX8_shift_105 (lv_at hl 7 rfl) ?_
                              obtain ⟨r_215, hc_216, hf⟩ := mm_bd1s hf
                              refine mm_callW (q0 := 89) (ci := 6) (w2 := (wd_X8 cI cL cS cH a v_hasImage v_now_rows v_now_cols v_now_high v_now_wide v_now_folds v_now_wrong v_now_more v_now_rowOf v_now_colOf v_now_below v_now_face v_now_worn v_now_last v_now_bend v_now_tall v_kept_rows v_kept_cols v_kept_high v_kept_wide v_kept_folds v_kept_wrong v_kept_more v_kept_rowOf v_kept_colOf v_kept_below v_kept_face v_kept_worn v_kept_last v_kept_bend v_kept_tall v_wearing_size v_wearing_stepCount v_wearing_draftCount v_wearing_place v_wearing_fault v_wearing_stacked v_wearing_tape v_wearing_steps v_wearing_draft v_wearing_stack v_planned_size v_planned_trial_rows v_planned_trial_cols v_planned_trial_high v_planned_trial_wide v_planned_trial_folds v_planned_trial_wrong v_planned_trial_more v_planned_trial_rowOf v_planned_trial_colOf v_planned_trial_below v_planned_trial_face v_planned_trial_worn v_planned_trial_last v_planned_trial_bend v_planned_trial_tall v_planned_lines v_planned_ways v_search_found v_search_wrong v_search_more v_search_folds v_search_wanted v_search_levels0_rows v_search_levels0_cols v_search_levels0_high v_search_levels0_wide v_search_levels0_folds v_search_levels0_wrong v_search_levels0_more v_search_levels0_rowOf v_search_levels0_colOf v_search_levels0_below v_search_levels0_face v_search_levels0_worn v_search_levels0_last v_search_levels0_bend v_search_levels0_tall v_search_levels1_rows v_search_levels1_cols v_search_levels1_high v_search_levels1_wide v_search_levels1_folds v_search_levels1_wrong v_search_levels1_more v_search_levels1_rowOf v_search_levels1_colOf v_search_levels1_below v_search_levels1_face v_search_levels1_worn v_search_levels1_last v_search_levels1_bend v_search_levels1_tall v_search_levels2_rows v_search_levels2_cols v_search_levels2_high v_search_levels2_wide v_search_levels2_folds v_search_levels2_wrong v_search_levels2_more v_search_levels2_rowOf v_search_levels2_colOf v_search_levels2_below v_search_levels2_face v_search_levels2_worn v_search_levels2_last v_search_levels2_bend v_search_levels2_tall v_search_levels3_rows v_search_levels3_cols v_search_levels3_high v_search_levels3_wide v_search_levels3_folds v_search_levels3_wrong v_search_levels3_more v_search_levels3_rowOf v_search_levels3_colOf v_search_levels3_below v_search_levels3_face v_search_levels3_worn v_search_levels3_last v_search_levels3_bend v_search_levels3_tall v_search_path v_search_best v_strip_list v_strip_found v_strip_at v_changes_value v_changes_done v_changes_size v_changes_before v_changes_after v_foldings_size v_foldings_ran v_foldings_number v_foldings_kinds v_foldings_trace v_shelves0_holds v_shelves0_body v_shelves0_sort v_shelves0_size v_shelves0_items v_shelves1_holds v_shelves1_body v_shelves1_sort v_shelves1_size v_shelves1_items v_shelves2_holds v_shelves2_body v_shelves2_sort v_shelves2_size v_shelves2_items v_shelves3_holds v_shelves3_body v_shelves3_sort v_shelves3_size v_shelves3_items v_shelves4_holds v_shelves4_body v_shelves4_sort v_shelves4_size v_shelves4_items v_shelves5_holds v_shelves5_body v_shelves5_sort v_shelves5_size v_shelves5_items)) (rest := []) C0 lk_X8_303 (ctX6_hasPart (a := (fun k => a (k + 89))) (d := d - 1) (by omega) hc_216) (by omega) rfl hl.1 rfl (mm_cat rfl) dX8_shift_107 hP hD hA hS rfl rfl [false, false, false, false, false, false, false, false, false, false, false, false, false, false, false, false, false, false, false, false, false, false, false, false, false, false, false, false, false, false, false, false, false, false, false, false, false, false, false, false, false, false, false, false, false, false, false, false, false, false, false, false, false, false, false, false, false, false, false, false, false, false, false, false, false, false, false, false, false, false, false, false, false, false, false, false, false, false, false, false, false, false, false, false, false, false, false, false, false, true, true, false, false, false, false, false, false, false, false] rfl rfl rfl rfl (fun H locs hP hD hS => ?_)
                              refine W.eq (g2 := F0 m 110 ls [.int (mm_b r_215)]) rfl ?_
                              refine lv_if_ne (tgt := 116) hx hb dX8_shift_110 (by decide) (fun c_217 => ?_) (fun c_217 => ?_)
                              · have hf := mm_in hf (mm_b1 c_217)
                                refine lv_aload hx hb dX8_shift_116 (lv_at hl 1 rfl) ?_
                                refine mm_get C0 hP iw_X6 91 rfl rfl 4 (by decide) fl_X8_299 rfl dX8_shift_118 ?_
                                refine lv_iload_n hx hb dX8_shift_121 rfl (lv_at hl 4 rfl) ?_
                                refine lv_aload hx hb dX8_shift_122 (lv_at hl 0 rfl) ?_
                                refine mm_get C0 hP iw_X6 89 rfl rfl 4 (by decide) fl_X8_299 rfl dX8_shift_124 ?_
                                refine lv_iload hx hb dX8_shift_127 (lv_at hl 6 rfl) ?_
                                refine lv_iload hx hb dX8_shift_129 (lv_at hl 7 rfl) ?_
                                obtain ⟨h_218, hf⟩ := mm_cks hf
                                refine mm_copyl C0 la_X8_306 hP hD hS 92 90 rfl rfl h_218 hl.1 (by omega) (mm_cat rfl) dX8_shift_131 (w2 := (wd_X8 cI cL cS cH a v_hasImage v_now_rows v_now_cols v_now_high v_now_wide v_now_folds v_now_wrong v_now_more v_now_rowOf v_now_colOf v_now_below v_now_face v_now_worn v_now_last v_now_bend v_now_tall v_kept_rows v_kept_cols v_kept_high v_kept_wide v_kept_folds v_kept_wrong v_kept_more v_kept_rowOf v_kept_colOf v_kept_below v_kept_face v_kept_worn v_kept_last v_kept_bend v_kept_tall v_wearing_size v_wearing_stepCount v_wearing_draftCount v_wearing_place v_wearing_fault v_wearing_stacked v_wearing_tape v_wearing_steps v_wearing_draft v_wearing_stack v_planned_size v_planned_trial_rows v_planned_trial_cols v_planned_trial_high v_planned_trial_wide v_planned_trial_folds v_planned_trial_wrong v_planned_trial_more v_planned_trial_rowOf v_planned_trial_colOf v_planned_trial_below v_planned_trial_face v_planned_trial_worn v_planned_trial_last v_planned_trial_bend v_planned_trial_tall v_planned_lines v_planned_ways v_search_found v_search_wrong v_search_more v_search_folds v_search_wanted v_search_levels0_rows v_search_levels0_cols v_search_levels0_high v_search_levels0_wide v_search_levels0_folds v_search_levels0_wrong v_search_levels0_more v_search_levels0_rowOf v_search_levels0_colOf v_search_levels0_below v_search_levels0_face v_search_levels0_worn v_search_levels0_last v_search_levels0_bend v_search_levels0_tall v_search_levels1_rows v_search_levels1_cols v_search_levels1_high v_search_levels1_wide v_search_levels1_folds v_search_levels1_wrong v_search_levels1_more v_search_levels1_rowOf v_search_levels1_colOf v_search_levels1_below v_search_levels1_face v_search_levels1_worn v_search_levels1_last v_search_levels1_bend v_search_levels1_tall v_search_levels2_rows v_search_levels2_cols v_search_levels2_high v_search_levels2_wide v_search_levels2_folds v_search_levels2_wrong v_search_levels2_more v_search_levels2_rowOf v_search_levels2_colOf v_search_levels2_below v_search_levels2_face v_search_levels2_worn v_search_levels2_last v_search_levels2_bend v_search_levels2_tall v_search_levels3_rows v_search_levels3_cols v_search_levels3_high v_search_levels3_wide v_search_levels3_folds v_search_levels3_wrong v_search_levels3_more v_search_levels3_rowOf v_search_levels3_colOf v_search_levels3_below v_search_levels3_face v_search_levels3_worn v_search_levels3_last v_search_levels3_bend v_search_levels3_tall v_search_path v_search_best v_strip_list v_strip_found v_strip_at v_changes_value v_changes_done v_changes_size v_changes_before v_changes_after v_foldings_size v_foldings_ran v_foldings_number v_foldings_kinds v_foldings_trace v_shelves0_holds v_shelves0_body v_shelves0_sort v_shelves0_size v_shelves0_items v_shelves1_holds v_shelves1_body v_shelves1_sort v_shelves1_size (mm_cp v_shelves2_items v_shelves1_items x2 x4 x5) v_shelves2_holds v_shelves2_body v_shelves2_sort v_shelves2_size v_shelves2_items v_shelves3_holds v_shelves3_body v_shelves3_sort v_shelves3_size v_shelves3_items v_shelves4_holds v_shelves4_body v_shelves4_sort v_shelves4_size v_shelves4_items v_shelves5_holds v_shelves5_body v_shelves5_sort v_shelves5_size v_shelves5_items)) rfl (fun H locs hP hD hS => ?_)
                                generalize el_219 : (mm_cp v_shelves2_items v_shelves1_items x2 x4 x5) = l_219 at hP hD
                                have hf := mm_nms hf el_219.symm
                                refine lv_iload hx hb dX8_shift_134 (lv_at hl 7 rfl) ?_
                                apply mm_sub7 hf
                                exact mm_iret C0 hP hD hS dX8_shift_136
                              · have hf := mm_ip hf (mm_b0 c_217)
                                refine lv_bipush (v := -13) hx hb dX8_shift_113 (by decide) ?_
                                apply mm_sub7 hf
                                exact mm_iret C0 hP hD hS dX8_shift_115
                        · have hf := mm_in hf c_210
                          refine lv_bipush (v := -12) hx hb dX8_shift_82 (by decide) ?_
                          apply mm_sub7 hf
                          exact mm_iret C0 hP hD hS dX8_shift_84
                  · have hf := mm_ip hf c_207
                    refine lv_bipush (v := -11) hx hb dX8_shift_48 (by decide) ?_
                    apply mm_sub7 hf
                    exact mm_iret C0 hP hD hS dX8_shift_50
              · have hf := mm_in hf c_205
                by_cases c_220 : x3 = (2 : Int32)
                · have hf := mm_ip hf c_220
                  refine mm_aald 3 rfl C0 hP 86 rfl (b := a 91) (by rw [c_220]; rfl) (by rw [c_220]; rfl) dX8_shift_29 ?_
                  refine lv_astore (lv' := [(7, .ref (a 91)), (6, .ref (a 91)), (0, .ref (a 0)), (1, .int x1), (2, .int x2), (3, .int x3), (4, .int x4), (5, .int x5)]) hx hb dX8_shift_30 hl (by decide) rfl (fun ls hl => ?_)
                  refine lv_aload hx hb dX8_shift_32 (lv_at hl 1 rfl) ?_
                  refine mm_get C0 hP iw_X6 91 rfl rfl 0 (by decide) fl_X8_168 rfl dX8_shift_34 ?_
                  refine lv_if_eq (tgt := 48) hx hb dX8_shift_37 (by decide) (fun c_221 => ?_) (fun c_221 => ?_)
                  · have hf := mm_ip hf c_221
                    refine lv_bipush (v := -11) hx hb dX8_shift_48 (by decide) ?_
                    apply mm_sub7 hf
                    exact mm_iret C0 hP hD hS dX8_shift_50
                  · have hf := mm_in hf c_221
                    refine lv_aload hx hb dX8_shift_40 (lv_at hl 0 rfl) ?_
                    refine mm_get C0 hP iw_X6 91 rfl rfl 0 (by decide) fl_X8_168 rfl dX8_shift_42 ?_
                    refine lv_if_ne (tgt := 51) hx hb dX8_shift_45 (by decide) (fun c_222 => ?_) (fun c_222 => ?_)
                    · have hf := mm_in hf c_222
                      refine lv_aload hx hb dX8_shift_51 (lv_at hl 1 rfl) ?_
                      refine mm_get C0 hP iw_X6 91 rfl rfl 0 (by decide) fl_X8_168 rfl dX8_shift_53 ?_
                      refine lv_iconst (v := 2) hx hb dX8_shift_56 (by decide) ?_
                      refine lv_icmp_ne (tgt := 82) hx hb dX8_shift_57 (by decide) (fun c_223 => ?_) (fun c_223 => ?_)
                      · have hf := mm_in hf c_223
                        refine lv_bipush (v := -12) hx hb dX8_shift_82 (by decide) ?_
                        apply mm_sub7 hf
                        exact mm_iret C0 hP hD hS dX8_shift_84
                      · have hf := mm_ip hf c_223
                        refine lv_aload hx hb dX8_shift_60 (lv_at hl 0 rfl) ?_
                        refine mm_get C0 hP iw_X6 91 rfl rfl 0 (by decide) fl_X8_168 rfl dX8_shift_62 ?_
                        refine lv_iconst (v := 2) hx hb dX8_shift_65 (by decide) ?_
                        refine lv_icmp_ne (tgt := 82) hx hb dX8_shift_66 (by decide) (fun c_224 => ?_) (fun c_224 => ?_)
                        · have hf := mm_in hf c_224
                          refine lv_bipush (v := -12) hx hb dX8_shift_82 (by decide) ?_
                          apply mm_sub7 hf
                          exact mm_iret C0 hP hD hS dX8_shift_84
                        · have hf := mm_ip hf c_224
                          refine lv_aload hx hb dX8_shift_69 (lv_at hl 1 rfl) ?_
                          refine mm_get C0 hP iw_X6 91 rfl rfl 2 (by decide) fl_X8_171 rfl dX8_shift_71 ?_
                          refine lv_aload hx hb dX8_shift_74 (lv_at hl 0 rfl) ?_
                          refine mm_get C0 hP iw_X6 91 rfl rfl 2 (by decide) fl_X8_171 rfl dX8_shift_76 ?_
                          refine lv_icmp_eq (tgt := 85) hx hb dX8_shift_79 (by decide) (fun c_225 => ?_) (fun c_225 => ?_)
                          · have hf := mm_ip hf c_225
                            refine lv_iload hx hb dX8_shift_85 (lv_at hl 7 rfl) ?_
                            refine lv_if_lt (tgt := 113) hx hb dX8_shift_87 (by decide) (fun c_226 => ?_) (fun c_226 => ?_)
                            · have hf := mm_ip hf c_226
                              refine lv_bipush (v := -13) hx hb dX8_shift_113 (by decide) ?_
                              apply mm_sub7 hf
                              exact mm_iret C0 hP hD hS dX8_shift_115
                            · have hf := mm_in hf c_226
                              refine lv_aload hx hb dX8_shift_90 (lv_at hl 1 rfl) ?_
                              refine lv_iload_n hx hb dX8_shift_92 rfl (lv_at hl 4 rfl) ?_
                              refine lv_iload hx hb dX8_shift_93 (lv_at hl 7 rfl) ?_
                              obtain ⟨r_227, hc_228, hf⟩ := mm_bd1s hf
                              refine mm_callW (q0 := 91) (ci := 6) (w2 := (wd_X8 cI cL cS cH a v_hasImage v_now_rows v_now_cols v_now_high v_now_wide v_now_folds v_now_wrong v_now_more v_now_rowOf v_now_colOf v_now_below v_now_face v_now_worn v_now_last v_now_bend v_now_tall v_kept_rows v_kept_cols v_kept_high v_kept_wide v_kept_folds v_kept_wrong v_kept_more v_kept_rowOf v_kept_colOf v_kept_below v_kept_face v_kept_worn v_kept_last v_kept_bend v_kept_tall v_wearing_size v_wearing_stepCount v_wearing_draftCount v_wearing_place v_wearing_fault v_wearing_stacked v_wearing_tape v_wearing_steps v_wearing_draft v_wearing_stack v_planned_size v_planned_trial_rows v_planned_trial_cols v_planned_trial_high v_planned_trial_wide v_planned_trial_folds v_planned_trial_wrong v_planned_trial_more v_planned_trial_rowOf v_planned_trial_colOf v_planned_trial_below v_planned_trial_face v_planned_trial_worn v_planned_trial_last v_planned_trial_bend v_planned_trial_tall v_planned_lines v_planned_ways v_search_found v_search_wrong v_search_more v_search_folds v_search_wanted v_search_levels0_rows v_search_levels0_cols v_search_levels0_high v_search_levels0_wide v_search_levels0_folds v_search_levels0_wrong v_search_levels0_more v_search_levels0_rowOf v_search_levels0_colOf v_search_levels0_below v_search_levels0_face v_search_levels0_worn v_search_levels0_last v_search_levels0_bend v_search_levels0_tall v_search_levels1_rows v_search_levels1_cols v_search_levels1_high v_search_levels1_wide v_search_levels1_folds v_search_levels1_wrong v_search_levels1_more v_search_levels1_rowOf v_search_levels1_colOf v_search_levels1_below v_search_levels1_face v_search_levels1_worn v_search_levels1_last v_search_levels1_bend v_search_levels1_tall v_search_levels2_rows v_search_levels2_cols v_search_levels2_high v_search_levels2_wide v_search_levels2_folds v_search_levels2_wrong v_search_levels2_more v_search_levels2_rowOf v_search_levels2_colOf v_search_levels2_below v_search_levels2_face v_search_levels2_worn v_search_levels2_last v_search_levels2_bend v_search_levels2_tall v_search_levels3_rows v_search_levels3_cols v_search_levels3_high v_search_levels3_wide v_search_levels3_folds v_search_levels3_wrong v_search_levels3_more v_search_levels3_rowOf v_search_levels3_colOf v_search_levels3_below v_search_levels3_face v_search_levels3_worn v_search_levels3_last v_search_levels3_bend v_search_levels3_tall v_search_path v_search_best v_strip_list v_strip_found v_strip_at v_changes_value v_changes_done v_changes_size v_changes_before v_changes_after v_foldings_size v_foldings_ran v_foldings_number v_foldings_kinds v_foldings_trace v_shelves0_holds v_shelves0_body v_shelves0_sort v_shelves0_size v_shelves0_items v_shelves1_holds v_shelves1_body v_shelves1_sort v_shelves1_size v_shelves1_items v_shelves2_holds v_shelves2_body v_shelves2_sort v_shelves2_size v_shelves2_items v_shelves3_holds v_shelves3_body v_shelves3_sort v_shelves3_size v_shelves3_items v_shelves4_holds v_shelves4_body v_shelves4_sort v_shelves4_size v_shelves4_items v_shelves5_holds v_shelves5_body v_shelves5_sort v_shelves5_size v_shelves5_items)) (rest := []) C0 lk_X8_303 (ctX6_hasPart (a := (fun k => a (k + 91))) (d := d - 1) (by omega) hc_228) (by omega) rfl hl.1 rfl (mm_cat rfl) dX8_shift_95 hP hD hA hS rfl rfl [false, false, false, false, false, false, false, false, false, false, false, false, false, false, false, false, false, false, false, false, false, false, false, false, false, false, false, false, false, false, false, false, false, false, false, false, false, false, false, false, false, false, false, false, false, false, false, false, false, false, false, false, false, false, false, false, false, false, false, false, false, false, false, false, false, false, false, false, false, false, false, false, false, false, false, false, false, false, false, false, false, false, false, false, false, false, false, false, false, false, false, true, true, false, false, false, false, false, false] rfl rfl rfl rfl (fun H locs hP hD hS => ?_)
                              refine W.eq (g2 := F0 m 98 ls [.int (mm_b r_227)]) rfl ?_
                              refine lv_if_eq (tgt := 113) hx hb dX8_shift_98 (by decide) (fun c_229 => ?_) (fun c_229 => ?_)
                              · have hf := mm_ip hf (mm_b0 c_229)
                                refine lv_bipush (v := -13) hx hb dX8_shift_113 (by decide) ?_
                                apply mm_sub7 hf
                                exact mm_iret C0 hP hD hS dX8_shift_115
                              · have hf := mm_in hf (mm_b1 c_229)
                                refine lv_aload hx hb dX8_shift_101 (lv_at hl 0 rfl) ?_
                                refine lv_iload hx hb dX8_shift_103 (lv_at hl 6 rfl) ?_
                                refine lv_iload hx hb dX8_shift_105 (lv_at hl 7 rfl) ?_
                                obtain ⟨r_230, hc_231, hf⟩ := mm_bd1s hf
                                refine mm_callW (q0 := 91) (ci := 6) (w2 := (wd_X8 cI cL cS cH a v_hasImage v_now_rows v_now_cols v_now_high v_now_wide v_now_folds v_now_wrong v_now_more v_now_rowOf v_now_colOf v_now_below v_now_face v_now_worn v_now_last v_now_bend v_now_tall v_kept_rows v_kept_cols v_kept_high v_kept_wide v_kept_folds v_kept_wrong v_kept_more v_kept_rowOf v_kept_colOf v_kept_below v_kept_face v_kept_worn v_kept_last v_kept_bend v_kept_tall v_wearing_size v_wearing_stepCount v_wearing_draftCount v_wearing_place v_wearing_fault v_wearing_stacked v_wearing_tape v_wearing_steps v_wearing_draft v_wearing_stack v_planned_size v_planned_trial_rows v_planned_trial_cols v_planned_trial_high v_planned_trial_wide v_planned_trial_folds v_planned_trial_wrong v_planned_trial_more v_planned_trial_rowOf v_planned_trial_colOf v_planned_trial_below v_planned_trial_face v_planned_trial_worn v_planned_trial_last v_planned_trial_bend v_planned_trial_tall v_planned_lines v_planned_ways v_search_found v_search_wrong v_search_more v_search_folds v_search_wanted v_search_levels0_rows v_search_levels0_cols v_search_levels0_high v_search_levels0_wide v_search_levels0_folds v_search_levels0_wrong v_search_levels0_more v_search_levels0_rowOf v_search_levels0_colOf v_search_levels0_below v_search_levels0_face v_search_levels0_worn v_search_levels0_last v_search_levels0_bend v_search_levels0_tall v_search_levels1_rows v_search_levels1_cols v_search_levels1_high v_search_levels1_wide v_search_levels1_folds v_search_levels1_wrong v_search_levels1_more v_search_levels1_rowOf v_search_levels1_colOf v_search_levels1_below v_search_levels1_face v_search_levels1_worn v_search_levels1_last v_search_levels1_bend v_search_levels1_tall v_search_levels2_rows v_search_levels2_cols v_search_levels2_high v_search_levels2_wide v_search_levels2_folds v_search_levels2_wrong v_search_levels2_more v_search_levels2_rowOf v_search_levels2_colOf v_search_levels2_below v_search_levels2_face v_search_levels2_worn v_search_levels2_last v_search_levels2_bend v_search_levels2_tall v_search_levels3_rows v_search_levels3_cols v_search_levels3_high v_search_levels3_wide v_search_levels3_folds v_search_levels3_wrong v_search_levels3_more v_search_levels3_rowOf v_search_levels3_colOf v_search_levels3_below v_search_levels3_face v_search_levels3_worn v_search_levels3_last v_search_levels3_bend v_search_levels3_tall v_search_path v_search_best v_strip_list v_strip_found v_strip_at v_changes_value v_changes_done v_changes_size v_changes_before v_changes_after v_foldings_size v_foldings_ran v_foldings_number v_foldings_kinds v_foldings_trace v_shelves0_holds v_shelves0_body v_shelves0_sort v_shelves0_size v_shelves0_items v_shelves1_holds v_shelves1_body v_shelves1_sort v_shelves1_size v_shelves1_items v_shelves2_holds v_shelves2_body v_shelves2_sort v_shelves2_size v_shelves2_items v_shelves3_holds v_shelves3_body v_shelves3_sort v_shelves3_size v_shelves3_items v_shelves4_holds v_shelves4_body v_shelves4_sort v_shelves4_size v_shelves4_items v_shelves5_holds v_shelves5_body v_shelves5_sort v_shelves5_size v_shelves5_items)) (rest := []) C0 lk_X8_303 (ctX6_hasPart (a := (fun k => a (k + 91))) (d := d - 1) (by omega) hc_231) (by omega) rfl hl.1 rfl (mm_cat rfl) dX8_shift_107 hP hD hA hS rfl rfl [false, false, false, false, false, false, false, false, false, false, false, false, false, false, false, false, false, false, false, false, false, false, false, false, false, false, false, false, false, false, false, false, false, false, false, false, false, false, false, false, false, false, false, false, false, false, false, false, false, false, false, false, false, false, false, false, false, false, false, false, false, false, false, false, false, false, false, false, false, false, false, false, false, false, false, false, false, false, false, false, false, false, false, false, false, false, false, false, false, false, false, true, true, false, false, false, false, false, false] rfl rfl rfl rfl (fun H locs hP hD hS => ?_)
                                refine W.eq (g2 := F0 m 110 ls [.int (mm_b r_230)]) rfl ?_
                                refine lv_if_ne (tgt := 116) hx hb dX8_shift_110 (by decide) (fun c_232 => ?_) (fun c_232 => ?_)
                                · have hf := mm_in hf (mm_b1 c_232)
                                  refine lv_aload hx hb dX8_shift_116 (lv_at hl 1 rfl) ?_
                                  refine mm_get C0 hP iw_X6 91 rfl rfl 4 (by decide) fl_X8_299 rfl dX8_shift_118 ?_
                                  refine lv_iload_n hx hb dX8_shift_121 rfl (lv_at hl 4 rfl) ?_
                                  refine lv_aload hx hb dX8_shift_122 (lv_at hl 0 rfl) ?_
                                  refine mm_get C0 hP iw_X6 91 rfl rfl 4 (by decide) fl_X8_299 rfl dX8_shift_124 ?_
                                  refine lv_iload hx hb dX8_shift_127 (lv_at hl 6 rfl) ?_
                                  refine lv_iload hx hb dX8_shift_129 (lv_at hl 7 rfl) ?_
                                  obtain ⟨h_233, hf⟩ := mm_cks hf
                                  refine mm_copyl C0 la_X8_306 hP hD hS 92 92 rfl rfl h_233 hl.1 (by omega) (mm_cat rfl) dX8_shift_131 (w2 := (wd_X8 cI cL cS cH a v_hasImage v_now_rows v_now_cols v_now_high v_now_wide v_now_folds v_now_wrong v_now_more v_now_rowOf v_now_colOf v_now_below v_now_face v_now_worn v_now_last v_now_bend v_now_tall v_kept_rows v_kept_cols v_kept_high v_kept_wide v_kept_folds v_kept_wrong v_kept_more v_kept_rowOf v_kept_colOf v_kept_below v_kept_face v_kept_worn v_kept_last v_kept_bend v_kept_tall v_wearing_size v_wearing_stepCount v_wearing_draftCount v_wearing_place v_wearing_fault v_wearing_stacked v_wearing_tape v_wearing_steps v_wearing_draft v_wearing_stack v_planned_size v_planned_trial_rows v_planned_trial_cols v_planned_trial_high v_planned_trial_wide v_planned_trial_folds v_planned_trial_wrong v_planned_trial_more v_planned_trial_rowOf v_planned_trial_colOf v_planned_trial_below v_planned_trial_face v_planned_trial_worn v_planned_trial_last v_planned_trial_bend v_planned_trial_tall v_planned_lines v_planned_ways v_search_found v_search_wrong v_search_more v_search_folds v_search_wanted v_search_levels0_rows v_search_levels0_cols v_search_levels0_high v_search_levels0_wide v_search_levels0_folds v_search_levels0_wrong v_search_levels0_more v_search_levels0_rowOf v_search_levels0_colOf v_search_levels0_below v_search_levels0_face v_search_levels0_worn v_search_levels0_last v_search_levels0_bend v_search_levels0_tall v_search_levels1_rows v_search_levels1_cols v_search_levels1_high v_search_levels1_wide v_search_levels1_folds v_search_levels1_wrong v_search_levels1_more v_search_levels1_rowOf v_search_levels1_colOf v_search_levels1_below v_search_levels1_face v_search_levels1_worn v_search_levels1_last v_search_levels1_bend v_search_levels1_tall v_search_levels2_rows v_search_levels2_cols v_search_levels2_high v_search_levels2_wide v_search_levels2_folds v_search_levels2_wrong v_search_levels2_more v_search_levels2_rowOf v_search_levels2_colOf v_search_levels2_below v_search_levels2_face v_search_levels2_worn v_search_levels2_last v_search_levels2_bend v_search_levels2_tall v_search_levels3_rows v_search_levels3_cols v_search_levels3_high v_search_levels3_wide v_search_levels3_folds v_search_levels3_wrong v_search_levels3_more v_search_levels3_rowOf v_search_levels3_colOf v_search_levels3_below v_search_levels3_face v_search_levels3_worn v_search_levels3_last v_search_levels3_bend v_search_levels3_tall v_search_path v_search_best v_strip_list v_strip_found v_strip_at v_changes_value v_changes_done v_changes_size v_changes_before v_changes_after v_foldings_size v_foldings_ran v_foldings_number v_foldings_kinds v_foldings_trace v_shelves0_holds v_shelves0_body v_shelves0_sort v_shelves0_size v_shelves0_items v_shelves1_holds v_shelves1_body v_shelves1_sort v_shelves1_size v_shelves1_items v_shelves2_holds v_shelves2_body v_shelves2_sort v_shelves2_size (mm_cp v_shelves2_items v_shelves2_items x2 x4 x5) v_shelves3_holds v_shelves3_body v_shelves3_sort v_shelves3_size v_shelves3_items v_shelves4_holds v_shelves4_body v_shelves4_sort v_shelves4_size v_shelves4_items v_shelves5_holds v_shelves5_body v_shelves5_sort v_shelves5_size v_shelves5_items)) rfl (fun H locs hP hD hS => ?_)
                                  generalize el_234 : (mm_cp v_shelves2_items v_shelves2_items x2 x4 x5) = l_234 at hP hD
                                  have hf := mm_nms hf el_234.symm
                                  refine lv_iload hx hb dX8_shift_134 (lv_at hl 7 rfl) ?_
                                  apply mm_sub7 hf
                                  exact mm_iret C0 hP hD hS dX8_shift_136
                                · have hf := mm_ip hf (mm_b0 c_232)
                                  refine lv_bipush (v := -13) hx hb dX8_shift_113 (by decide) ?_
                                  apply mm_sub7 hf
                                  exact mm_iret C0 hP hD hS dX8_shift_115
                          · have hf := mm_in hf c_225
                            refine lv_bipush (v := -12) hx hb dX8_shift_82 (by decide) ?_
                            apply mm_sub7 hf
                            exact mm_iret C0 hP hD hS dX8_shift_84
                    · have hf := mm_ip hf c_222
                      refine lv_bipush (v := -11) hx hb dX8_shift_48 (by decide) ?_
                      apply mm_sub7 hf
                      exact mm_iret C0 hP hD hS dX8_shift_50
                · have hf := mm_in hf c_220
                  by_cases c_235 : x3 = (3 : Int32)
                  · have hf := mm_ip hf c_235
                    refine mm_aald 3 rfl C0 hP 86 rfl (b := a 93) (by rw [c_235]; rfl) (by rw [c_235]; rfl) dX8_shift_29 ?_
                    refine lv_astore (lv' := [(7, .ref (a 93)), (6, .ref (a 91)), (0, .ref (a 0)), (1, .int x1), (2, .int x2), (3, .int x3), (4, .int x4), (5, .int x5)]) hx hb dX8_shift_30 hl (by decide) rfl (fun ls hl => ?_)
                    refine lv_aload hx hb dX8_shift_32 (lv_at hl 1 rfl) ?_
                    refine mm_get C0 hP iw_X6 91 rfl rfl 0 (by decide) fl_X8_168 rfl dX8_shift_34 ?_
                    refine lv_if_eq (tgt := 48) hx hb dX8_shift_37 (by decide) (fun c_236 => ?_) (fun c_236 => ?_)
                    · have hf := mm_ip hf c_236
                      refine lv_bipush (v := -11) hx hb dX8_shift_48 (by decide) ?_
                      apply mm_sub7 hf
                      exact mm_iret C0 hP hD hS dX8_shift_50
                    · have hf := mm_in hf c_236
                      refine lv_aload hx hb dX8_shift_40 (lv_at hl 0 rfl) ?_
                      refine mm_get C0 hP iw_X6 93 rfl rfl 0 (by decide) fl_X8_168 rfl dX8_shift_42 ?_
                      refine lv_if_ne (tgt := 51) hx hb dX8_shift_45 (by decide) (fun c_237 => ?_) (fun c_237 => ?_)
                      · have hf := mm_in hf c_237
                        refine lv_aload hx hb dX8_shift_51 (lv_at hl 1 rfl) ?_
                        refine mm_get C0 hP iw_X6 91 rfl rfl 0 (by decide) fl_X8_168 rfl dX8_shift_53 ?_
                        refine lv_iconst (v := 2) hx hb dX8_shift_56 (by decide) ?_
                        refine lv_icmp_ne (tgt := 82) hx hb dX8_shift_57 (by decide) (fun c_238 => ?_) (fun c_238 => ?_)
                        · have hf := mm_in hf c_238
                          refine lv_bipush (v := -12) hx hb dX8_shift_82 (by decide) ?_
                          apply mm_sub7 hf
                          exact mm_iret C0 hP hD hS dX8_shift_84
                        · have hf := mm_ip hf c_238
                          refine lv_aload hx hb dX8_shift_60 (lv_at hl 0 rfl) ?_
                          refine mm_get C0 hP iw_X6 93 rfl rfl 0 (by decide) fl_X8_168 rfl dX8_shift_62 ?_
                          refine lv_iconst (v := 2) hx hb dX8_shift_65 (by decide) ?_
                          refine lv_icmp_ne (tgt := 82) hx hb dX8_shift_66 (by decide) (fun c_239 => ?_) (fun c_239 => ?_)
                          · have hf := mm_in hf c_239
                            refine lv_bipush (v := -12) hx hb dX8_shift_82 (by decide) ?_
                            apply mm_sub7 hf
                            exact mm_iret C0 hP hD hS dX8_shift_84
                          · have hf := mm_ip hf c_239
                            refine lv_aload hx hb dX8_shift_69 (lv_at hl 1 rfl) ?_
                            refine mm_get C0 hP iw_X6 91 rfl rfl 2 (by decide) fl_X8_171 rfl dX8_shift_71 ?_
                            refine lv_aload hx hb dX8_shift_74 (lv_at hl 0 rfl) ?_
                            refine mm_get C0 hP iw_X6 93 rfl rfl 2 (by decide) fl_X8_171 rfl dX8_shift_76 ?_
                            refine lv_icmp_eq (tgt := 85) hx hb dX8_shift_79 (by decide) (fun c_240 => ?_) (fun c_240 => ?_)
                            · have hf := mm_ip hf c_240
                              refine lv_iload hx hb dX8_shift_85 (lv_at hl 7 rfl) ?_
                              refine lv_if_lt (tgt := 113) hx hb dX8_shift_87 (by decide) (fun c_241 => ?_) (fun c_241 => ?_)
                              · have hf := mm_ip hf c_241
                                refine lv_bipush (v := -13) hx hb dX8_shift_113 (by decide) ?_
                                apply mm_sub7 hf
                                exact mm_iret C0 hP hD hS dX8_shift_115
                              · have hf := mm_in hf c_241
                                refine lv_aload hx hb dX8_shift_90 (lv_at hl 1 rfl) ?_
                                refine lv_iload_n hx hb dX8_shift_92 rfl (lv_at hl 4 rfl) ?_
                                refine lv_iload hx hb dX8_shift_93 (lv_at hl 7 rfl) ?_
                                obtain ⟨r_242, hc_243, hf⟩ := mm_bd1s hf
                                refine mm_callW (q0 := 91) (ci := 6) (w2 := (wd_X8 cI cL cS cH a v_hasImage v_now_rows v_now_cols v_now_high v_now_wide v_now_folds v_now_wrong v_now_more v_now_rowOf v_now_colOf v_now_below v_now_face v_now_worn v_now_last v_now_bend v_now_tall v_kept_rows v_kept_cols v_kept_high v_kept_wide v_kept_folds v_kept_wrong v_kept_more v_kept_rowOf v_kept_colOf v_kept_below v_kept_face v_kept_worn v_kept_last v_kept_bend v_kept_tall v_wearing_size v_wearing_stepCount v_wearing_draftCount v_wearing_place v_wearing_fault v_wearing_stacked v_wearing_tape v_wearing_steps v_wearing_draft v_wearing_stack v_planned_size v_planned_trial_rows v_planned_trial_cols v_planned_trial_high v_planned_trial_wide v_planned_trial_folds v_planned_trial_wrong v_planned_trial_more v_planned_trial_rowOf v_planned_trial_colOf v_planned_trial_below v_planned_trial_face v_planned_trial_worn v_planned_trial_last v_planned_trial_bend v_planned_trial_tall v_planned_lines v_planned_ways v_search_found v_search_wrong v_search_more v_search_folds v_search_wanted v_search_levels0_rows v_search_levels0_cols v_search_levels0_high v_search_levels0_wide v_search_levels0_folds v_search_levels0_wrong v_search_levels0_more v_search_levels0_rowOf v_search_levels0_colOf v_search_levels0_below v_search_levels0_face v_search_levels0_worn v_search_levels0_last v_search_levels0_bend v_search_levels0_tall v_search_levels1_rows v_search_levels1_cols v_search_levels1_high v_search_levels1_wide v_search_levels1_folds v_search_levels1_wrong v_search_levels1_more v_search_levels1_rowOf v_search_levels1_colOf v_search_levels1_below v_search_levels1_face v_search_levels1_worn v_search_levels1_last v_search_levels1_bend v_search_levels1_tall v_search_levels2_rows v_search_levels2_cols v_search_levels2_high v_search_levels2_wide v_search_levels2_folds v_search_levels2_wrong v_search_levels2_more v_search_levels2_rowOf v_search_levels2_colOf v_search_levels2_below v_search_levels2_face v_search_levels2_worn v_search_levels2_last v_search_levels2_bend v_search_levels2_tall v_search_levels3_rows v_search_levels3_cols v_search_levels3_high v_search_levels3_wide v_search_levels3_folds v_search_levels3_wrong v_search_levels3_more v_search_levels3_rowOf v_search_levels3_colOf v_search_levels3_below v_search_levels3_face v_search_levels3_worn v_search_levels3_last v_search_levels3_bend v_search_levels3_tall v_search_path v_search_best v_strip_list v_strip_found v_strip_at v_changes_value v_changes_done v_changes_size v_changes_before v_changes_after v_foldings_size v_foldings_ran v_foldings_number v_foldings_kinds v_foldings_trace v_shelves0_holds v_shelves0_body v_shelves0_sort v_shelves0_size v_shelves0_items v_shelves1_holds v_shelves1_body v_shelves1_sort v_shelves1_size v_shelves1_items v_shelves2_holds v_shelves2_body v_shelves2_sort v_shelves2_size v_shelves2_items v_shelves3_holds v_shelves3_body v_shelves3_sort v_shelves3_size v_shelves3_items v_shelves4_holds v_shelves4_body v_shelves4_sort v_shelves4_size v_shelves4_items v_shelves5_holds v_shelves5_body v_shelves5_sort v_shelves5_size v_shelves5_items)) (rest := []) C0 lk_X8_303 (ctX6_hasPart (a := (fun k => a (k + 91))) (d := d - 1) (by omega) hc_243) (by omega) rfl hl.1 rfl (mm_cat rfl) dX8_shift_95 hP hD hA hS rfl rfl [false, false, false, false, false, false, false, false, false, false, false, false, false, false, false, false, false, false, false, false, false, false, false, false, false, false, false, false, false, false, false, false, false, false, false, false, false, false, false, false, false, false, false, false, false, false, false, false, false, false, false, false, false, false, false, false, false, false, false, false, false, false, false, false, false, false, false, false, false, false, false, false, false, false, false, false, false, false, false, false, false, false, false, false, false, false, false, false, false, false, false, true, true, false, false, false, false, false, false] rfl rfl rfl rfl (fun H locs hP hD hS => ?_)
                                refine W.eq (g2 := F0 m 98 ls [.int (mm_b r_242)]) rfl ?_
                                refine lv_if_eq (tgt := 113) hx hb dX8_shift_98 (by decide) (fun c_244 => ?_) (fun c_244 => ?_)
                                · have hf := mm_ip hf (mm_b0 c_244)
                                  refine lv_bipush (v := -13) hx hb dX8_shift_113 (by decide) ?_
                                  apply mm_sub7 hf
                                  exact mm_iret C0 hP hD hS dX8_shift_115
                                · have hf := mm_in hf (mm_b1 c_244)
                                  refine lv_aload hx hb dX8_shift_101 (lv_at hl 0 rfl) ?_
                                  refine lv_iload hx hb dX8_shift_103 (lv_at hl 6 rfl) ?_
                                  refine lv_iload hx hb dX8_shift_105 (lv_at hl 7 rfl) ?_
                                  obtain ⟨r_245, hc_246, hf⟩ := mm_bd1s hf
                                  refine mm_callW (q0 := 93) (ci := 6) (w2 := (wd_X8 cI cL cS cH a v_hasImage v_now_rows v_now_cols v_now_high v_now_wide v_now_folds v_now_wrong v_now_more v_now_rowOf v_now_colOf v_now_below v_now_face v_now_worn v_now_last v_now_bend v_now_tall v_kept_rows v_kept_cols v_kept_high v_kept_wide v_kept_folds v_kept_wrong v_kept_more v_kept_rowOf v_kept_colOf v_kept_below v_kept_face v_kept_worn v_kept_last v_kept_bend v_kept_tall v_wearing_size v_wearing_stepCount v_wearing_draftCount v_wearing_place v_wearing_fault v_wearing_stacked v_wearing_tape v_wearing_steps v_wearing_draft v_wearing_stack v_planned_size v_planned_trial_rows v_planned_trial_cols v_planned_trial_high v_planned_trial_wide v_planned_trial_folds v_planned_trial_wrong v_planned_trial_more v_planned_trial_rowOf v_planned_trial_colOf v_planned_trial_below v_planned_trial_face v_planned_trial_worn v_planned_trial_last v_planned_trial_bend v_planned_trial_tall v_planned_lines v_planned_ways v_search_found v_search_wrong v_search_more v_search_folds v_search_wanted v_search_levels0_rows v_search_levels0_cols v_search_levels0_high v_search_levels0_wide v_search_levels0_folds v_search_levels0_wrong v_search_levels0_more v_search_levels0_rowOf v_search_levels0_colOf v_search_levels0_below v_search_levels0_face v_search_levels0_worn v_search_levels0_last v_search_levels0_bend v_search_levels0_tall v_search_levels1_rows v_search_levels1_cols v_search_levels1_high v_search_levels1_wide v_search_levels1_folds v_search_levels1_wrong v_search_levels1_more v_search_levels1_rowOf v_search_levels1_colOf v_search_levels1_below v_search_levels1_face v_search_levels1_worn v_search_levels1_last v_search_levels1_bend v_search_levels1_tall v_search_levels2_rows v_search_levels2_cols v_search_levels2_high v_search_levels2_wide v_search_levels2_folds v_search_levels2_wrong v_search_levels2_more v_search_levels2_rowOf v_search_levels2_colOf v_search_levels2_below v_search_levels2_face v_search_levels2_worn v_search_levels2_last v_search_levels2_bend v_search_levels2_tall v_search_levels3_rows v_search_levels3_cols v_search_levels3_high v_search_levels3_wide v_search_levels3_folds v_search_levels3_wrong v_search_levels3_more v_search_levels3_rowOf v_search_levels3_colOf v_search_levels3_below v_search_levels3_face v_search_levels3_worn v_search_levels3_last v_search_levels3_bend v_search_levels3_tall v_search_path v_search_best v_strip_list v_strip_found v_strip_at v_changes_value v_changes_done v_changes_size v_changes_before v_changes_after v_foldings_size v_foldings_ran v_foldings_number v_foldings_kinds v_foldings_trace v_shelves0_holds v_shelves0_body v_shelves0_sort v_shelves0_size v_shelves0_items v_shelves1_holds v_shelves1_body v_shelves1_sort v_shelves1_size v_shelves1_items v_shelves2_holds v_shelves2_body v_shelves2_sort v_shelves2_size v_shelves2_items v_shelves3_holds v_shelves3_body v_shelves3_sort v_shelves3_size v_shelves3_items v_shelves4_holds v_shelves4_body v_shelves4_sort v_shelves4_size v_shelves4_items v_shelves5_holds v_shelves5_body v_shelves5_sort v_shelves5_size v_shelves5_items)) (rest := []) C0 lk_X8_303 (ctX6_hasPart (a := (fun k => a (k + 93))) (d := d - 1) (by omega) hc_246) (by omega) rfl hl.1 rfl (mm_cat rfl) dX8_shift_107 hP hD hA hS rfl rfl [false, false, false, false, false, false, false, false, false, false, false, false, false, false, false, false, false, false, false, false, false, false, false, false, false, false, false, false, false, false, false, false, false, false, false, false, false, false, false, false, false, false, false, false, false, false, false, false, false, false, false, false, false, false, false, false, false, false, false, false, false, false, false, false, false, false, false, false, false, false, false, false, false, false, false, false, false, false, false, false, false, false, false, false, false, false, false, false, false, false, false, false, false, true, true, false, false, false, false] rfl rfl rfl rfl (fun H locs hP hD hS => ?_)
                                  refine W.eq (g2 := F0 m 110 ls [.int (mm_b r_245)]) rfl ?_
                                  refine lv_if_ne (tgt := 116) hx hb dX8_shift_110 (by decide) (fun c_247 => ?_) (fun c_247 => ?_)
                                  · have hf := mm_in hf (mm_b1 c_247)
                                    refine lv_aload hx hb dX8_shift_116 (lv_at hl 1 rfl) ?_
                                    refine mm_get C0 hP iw_X6 91 rfl rfl 4 (by decide) fl_X8_299 rfl dX8_shift_118 ?_
                                    refine lv_iload_n hx hb dX8_shift_121 rfl (lv_at hl 4 rfl) ?_
                                    refine lv_aload hx hb dX8_shift_122 (lv_at hl 0 rfl) ?_
                                    refine mm_get C0 hP iw_X6 93 rfl rfl 4 (by decide) fl_X8_299 rfl dX8_shift_124 ?_
                                    refine lv_iload hx hb dX8_shift_127 (lv_at hl 6 rfl) ?_
                                    refine lv_iload hx hb dX8_shift_129 (lv_at hl 7 rfl) ?_
                                    obtain ⟨h_248, hf⟩ := mm_cks hf
                                    refine mm_copyl C0 la_X8_306 hP hD hS 92 94 rfl rfl h_248 hl.1 (by omega) (mm_cat rfl) dX8_shift_131 (w2 := (wd_X8 cI cL cS cH a v_hasImage v_now_rows v_now_cols v_now_high v_now_wide v_now_folds v_now_wrong v_now_more v_now_rowOf v_now_colOf v_now_below v_now_face v_now_worn v_now_last v_now_bend v_now_tall v_kept_rows v_kept_cols v_kept_high v_kept_wide v_kept_folds v_kept_wrong v_kept_more v_kept_rowOf v_kept_colOf v_kept_below v_kept_face v_kept_worn v_kept_last v_kept_bend v_kept_tall v_wearing_size v_wearing_stepCount v_wearing_draftCount v_wearing_place v_wearing_fault v_wearing_stacked v_wearing_tape v_wearing_steps v_wearing_draft v_wearing_stack v_planned_size v_planned_trial_rows v_planned_trial_cols v_planned_trial_high v_planned_trial_wide v_planned_trial_folds v_planned_trial_wrong v_planned_trial_more v_planned_trial_rowOf v_planned_trial_colOf v_planned_trial_below v_planned_trial_face v_planned_trial_worn v_planned_trial_last v_planned_trial_bend v_planned_trial_tall v_planned_lines v_planned_ways v_search_found v_search_wrong v_search_more v_search_folds v_search_wanted v_search_levels0_rows v_search_levels0_cols v_search_levels0_high v_search_levels0_wide v_search_levels0_folds v_search_levels0_wrong v_search_levels0_more v_search_levels0_rowOf v_search_levels0_colOf v_search_levels0_below v_search_levels0_face v_search_levels0_worn v_search_levels0_last v_search_levels0_bend v_search_levels0_tall v_search_levels1_rows v_search_levels1_cols v_search_levels1_high v_search_levels1_wide v_search_levels1_folds v_search_levels1_wrong v_search_levels1_more v_search_levels1_rowOf v_search_levels1_colOf v_search_levels1_below v_search_levels1_face v_search_levels1_worn v_search_levels1_last v_search_levels1_bend v_search_levels1_tall v_search_levels2_rows v_search_levels2_cols v_search_levels2_high v_search_levels2_wide v_search_levels2_folds v_search_levels2_wrong v_search_levels2_more v_search_levels2_rowOf v_search_levels2_colOf v_search_levels2_below v_search_levels2_face v_search_levels2_worn v_search_levels2_last v_search_levels2_bend v_search_levels2_tall v_search_levels3_rows v_search_levels3_cols v_search_levels3_high v_search_levels3_wide v_search_levels3_folds v_search_levels3_wrong v_search_levels3_more v_search_levels3_rowOf v_search_levels3_colOf v_search_levels3_below v_search_levels3_face v_search_levels3_worn v_search_levels3_last v_search_levels3_bend v_search_levels3_tall v_search_path v_search_best v_strip_list v_strip_found v_strip_at v_changes_value v_changes_done v_changes_size v_changes_before v_changes_after v_foldings_size v_foldings_ran v_foldings_number v_foldings_kinds v_foldings_trace v_shelves0_holds v_shelves0_body v_shelves0_sort v_shelves0_size v_shelves0_items v_shelves1_holds v_shelves1_body v_shelves1_sort v_shelves1_size v_shelves1_items v_shelves2_holds v_shelves2_body v_shelves2_sort v_shelves2_size v_shelves2_items v_shelves3_holds v_shelves3_body v_shelves3_sort v_shelves3_size (mm_cp v_shelves2_items v_shelves3_items x2 x4 x5) v_shelves4_holds v_shelves4_body v_shelves4_sort v_shelves4_size v_shelves4_items v_shelves5_holds v_shelves5_body v_shelves5_sort v_shelves5_size v_shelves5_items)) rfl (fun H locs hP hD hS => ?_)
                                    generalize el_249 : (mm_cp v_shelves2_items v_shelves3_items x2 x4 x5) = l_249 at hP hD
                                    have hf := mm_nms hf el_249.symm
                                    refine lv_iload hx hb dX8_shift_134 (lv_at hl 7 rfl) ?_
                                    apply mm_sub7 hf
                                    exact mm_iret C0 hP hD hS dX8_shift_136
                                  · have hf := mm_ip hf (mm_b0 c_247)
                                    refine lv_bipush (v := -13) hx hb dX8_shift_113 (by decide) ?_
                                    apply mm_sub7 hf
                                    exact mm_iret C0 hP hD hS dX8_shift_115
                            · have hf := mm_in hf c_240
                              refine lv_bipush (v := -12) hx hb dX8_shift_82 (by decide) ?_
                              apply mm_sub7 hf
                              exact mm_iret C0 hP hD hS dX8_shift_84
                      · have hf := mm_ip hf c_237
                        refine lv_bipush (v := -11) hx hb dX8_shift_48 (by decide) ?_
                        apply mm_sub7 hf
                        exact mm_iret C0 hP hD hS dX8_shift_50
                  · have hf := mm_in hf c_235
                    by_cases c_250 : x3 = (4 : Int32)
                    · have hf := mm_ip hf c_250
                      refine mm_aald 3 rfl C0 hP 86 rfl (b := a 95) (by rw [c_250]; rfl) (by rw [c_250]; rfl) dX8_shift_29 ?_
                      refine lv_astore (lv' := [(7, .ref (a 95)), (6, .ref (a 91)), (0, .ref (a 0)), (1, .int x1), (2, .int x2), (3, .int x3), (4, .int x4), (5, .int x5)]) hx hb dX8_shift_30 hl (by decide) rfl (fun ls hl => ?_)
                      refine lv_aload hx hb dX8_shift_32 (lv_at hl 1 rfl) ?_
                      refine mm_get C0 hP iw_X6 91 rfl rfl 0 (by decide) fl_X8_168 rfl dX8_shift_34 ?_
                      refine lv_if_eq (tgt := 48) hx hb dX8_shift_37 (by decide) (fun c_251 => ?_) (fun c_251 => ?_)
                      · have hf := mm_ip hf c_251
                        refine lv_bipush (v := -11) hx hb dX8_shift_48 (by decide) ?_
                        apply mm_sub7 hf
                        exact mm_iret C0 hP hD hS dX8_shift_50
                      · have hf := mm_in hf c_251
                        refine lv_aload hx hb dX8_shift_40 (lv_at hl 0 rfl) ?_
                        refine mm_get C0 hP iw_X6 95 rfl rfl 0 (by decide) fl_X8_168 rfl dX8_shift_42 ?_
                        refine lv_if_ne (tgt := 51) hx hb dX8_shift_45 (by decide) (fun c_252 => ?_) (fun c_252 => ?_)
                        · have hf := mm_in hf c_252
                          refine lv_aload hx hb dX8_shift_51 (lv_at hl 1 rfl) ?_
                          refine mm_get C0 hP iw_X6 91 rfl rfl 0 (by decide) fl_X8_168 rfl dX8_shift_53 ?_
                          refine lv_iconst (v := 2) hx hb dX8_shift_56 (by decide) ?_
                          refine lv_icmp_ne (tgt := 82) hx hb dX8_shift_57 (by decide) (fun c_253 => ?_) (fun c_253 => ?_)
                          · have hf := mm_in hf c_253
                            refine lv_bipush (v := -12) hx hb dX8_shift_82 (by decide) ?_
                            apply mm_sub7 hf
                            exact mm_iret C0 hP hD hS dX8_shift_84
                          · have hf := mm_ip hf c_253
                            refine lv_aload hx hb dX8_shift_60 (lv_at hl 0 rfl) ?_
                            refine mm_get C0 hP iw_X6 95 rfl rfl 0 (by decide) fl_X8_168 rfl dX8_shift_62 ?_
                            refine lv_iconst (v := 2) hx hb dX8_shift_65 (by decide) ?_
                            refine lv_icmp_ne (tgt := 82) hx hb dX8_shift_66 (by decide) (fun c_254 => ?_) (fun c_254 => ?_)
                            · have hf := mm_in hf c_254
                              refine lv_bipush (v := -12) hx hb dX8_shift_82 (by decide) ?_
                              apply mm_sub7 hf
                              exact mm_iret C0 hP hD hS dX8_shift_84
                            · have hf := mm_ip hf c_254
                              refine lv_aload hx hb dX8_shift_69 (lv_at hl 1 rfl) ?_
                              refine mm_get C0 hP iw_X6 91 rfl rfl 2 (by decide) fl_X8_171 rfl dX8_shift_71 ?_
                              refine lv_aload hx hb dX8_shift_74 (lv_at hl 0 rfl) ?_
                              refine mm_get C0 hP iw_X6 95 rfl rfl 2 (by decide) fl_X8_171 rfl dX8_shift_76 ?_
                              refine lv_icmp_eq (tgt := 85) hx hb dX8_shift_79 (by decide) (fun c_255 => ?_) (fun c_255 => ?_)
                              · have hf := mm_ip hf c_255
                                refine lv_iload hx hb dX8_shift_85 (lv_at hl 7 rfl) ?_
                                refine lv_if_lt (tgt := 113) hx hb dX8_shift_87 (by decide) (fun c_256 => ?_) (fun c_256 => ?_)
                                · have hf := mm_ip hf c_256
                                  refine lv_bipush (v := -13) hx hb dX8_shift_113 (by decide) ?_
                                  apply mm_sub7 hf
                                  exact mm_iret C0 hP hD hS dX8_shift_115
                                · have hf := mm_in hf c_256
                                  refine lv_aload hx hb dX8_shift_90 (lv_at hl 1 rfl) ?_
                                  refine lv_iload_n hx hb dX8_shift_92 rfl (lv_at hl 4 rfl) ?_
                                  refine lv_iload hx hb dX8_shift_93 (lv_at hl 7 rfl) ?_
                                  obtain ⟨r_257, hc_258, hf⟩ := mm_bd1s hf
                                  refine mm_callW (q0 := 91) (ci := 6) (w2 := (wd_X8 cI cL cS cH a v_hasImage v_now_rows v_now_cols v_now_high v_now_wide v_now_folds v_now_wrong v_now_more v_now_rowOf v_now_colOf v_now_below v_now_face v_now_worn v_now_last v_now_bend v_now_tall v_kept_rows v_kept_cols v_kept_high v_kept_wide v_kept_folds v_kept_wrong v_kept_more v_kept_rowOf v_kept_colOf v_kept_below v_kept_face v_kept_worn v_kept_last v_kept_bend v_kept_tall v_wearing_size v_wearing_stepCount v_wearing_draftCount v_wearing_place v_wearing_fault v_wearing_stacked v_wearing_tape v_wearing_steps v_wearing_draft v_wearing_stack v_planned_size v_planned_trial_rows v_planned_trial_cols v_planned_trial_high v_planned_trial_wide v_planned_trial_folds v_planned_trial_wrong v_planned_trial_more v_planned_trial_rowOf v_planned_trial_colOf v_planned_trial_below v_planned_trial_face v_planned_trial_worn v_planned_trial_last v_planned_trial_bend v_planned_trial_tall v_planned_lines v_planned_ways v_search_found v_search_wrong v_search_more v_search_folds v_search_wanted v_search_levels0_rows v_search_levels0_cols v_search_levels0_high v_search_levels0_wide v_search_levels0_folds v_search_levels0_wrong v_search_levels0_more v_search_levels0_rowOf v_search_levels0_colOf v_search_levels0_below v_search_levels0_face v_search_levels0_worn v_search_levels0_last v_search_levels0_bend v_search_levels0_tall v_search_levels1_rows v_search_levels1_cols v_search_levels1_high v_search_levels1_wide v_search_levels1_folds v_search_levels1_wrong v_search_levels1_more v_search_levels1_rowOf v_search_levels1_colOf v_search_levels1_below v_search_levels1_face v_search_levels1_worn v_search_levels1_last v_search_levels1_bend v_search_levels1_tall v_search_levels2_rows v_search_levels2_cols v_search_levels2_high v_search_levels2_wide v_search_levels2_folds v_search_levels2_wrong v_search_levels2_more v_search_levels2_rowOf v_search_levels2_colOf v_search_levels2_below v_search_levels2_face v_search_levels2_worn v_search_levels2_last v_search_levels2_bend v_search_levels2_tall v_search_levels3_rows v_search_levels3_cols v_search_levels3_high v_search_levels3_wide v_search_levels3_folds v_search_levels3_wrong v_search_levels3_more v_search_levels3_rowOf v_search_levels3_colOf v_search_levels3_below v_search_levels3_face v_search_levels3_worn v_search_levels3_last v_search_levels3_bend v_search_levels3_tall v_search_path v_search_best v_strip_list v_strip_found v_strip_at v_changes_value v_changes_done v_changes_size v_changes_before v_changes_after v_foldings_size v_foldings_ran v_foldings_number v_foldings_kinds v_foldings_trace v_shelves0_holds v_shelves0_body v_shelves0_sort v_shelves0_size v_shelves0_items v_shelves1_holds v_shelves1_body v_shelves1_sort v_shelves1_size v_shelves1_items v_shelves2_holds v_shelves2_body v_shelves2_sort v_shelves2_size v_shelves2_items v_shelves3_holds v_shelves3_body v_shelves3_sort v_shelves3_size v_shelves3_items v_shelves4_holds v_shelves4_body v_shelves4_sort v_shelves4_size v_shelves4_items v_shelves5_holds v_shelves5_body v_shelves5_sort v_shelves5_size v_shelves5_items)) (rest := []) C0 lk_X8_303 (ctX6_hasPart (a := (fun k => a (k + 91))) (d := d - 1) (by omega) hc_258) (by omega) rfl hl.1 rfl (mm_cat rfl) dX8_shift_95 hP hD hA hS rfl rfl [false, false, false, false, false, false, false, false, false, false, false, false, false, false, false, false, false, false, false, false, false, false, false, false, false, false, false, false, false, false, false, false, false, false, false, false, false, false, false, false, false, false, false, false, false, false, false, false, false, false, false, false, false, false, false, false, false, false, false, false, false, false, false, false, false, false, false, false, false, false, false, false, false, false, false, false, false, false, false, false, false, false, false, false, false, false, false, false, false, false, false, true, true, false, false, false, false, false, false] rfl rfl rfl rfl (fun H locs hP hD hS => ?_)
                                  refine W.eq (g2 := F0 m 98 ls [.int (mm_b r_257)]) rfl ?_
                                  refine lv_if_eq (tgt := 113) hx hb dX8_shift_98 (by decide) (fun c_259 => ?_) (fun c_259 => ?_)
                                  · have hf := mm_ip hf (mm_b0 c_259)
                                    refine lv_bipush (v := -13) hx hb dX8_shift_113 (by decide) ?_
                                    apply mm_sub7 hf
                                    exact mm_iret C0 hP hD hS dX8_shift_115
                                  · have hf := mm_in hf (mm_b1 c_259)
                                    refine lv_aload hx hb dX8_shift_101 (lv_at hl 0 rfl) ?_
                                    refine lv_iload hx hb dX8_shift_103 (lv_at hl 6 rfl) ?_
                                    refine lv_iload hx hb dX8_shift_105 (lv_at hl 7 rfl) ?_
                                    obtain ⟨r_260, hc_261, hf⟩ := mm_bd1s hf
                                    refine mm_callW (q0 := 95) (ci := 6) (w2 := (wd_X8 cI cL cS cH a v_hasImage v_now_rows v_now_cols v_now_high v_now_wide v_now_folds v_now_wrong v_now_more v_now_rowOf v_now_colOf v_now_below v_now_face v_now_worn v_now_last v_now_bend v_now_tall v_kept_rows v_kept_cols v_kept_high v_kept_wide v_kept_folds v_kept_wrong v_kept_more v_kept_rowOf v_kept_colOf v_kept_below v_kept_face v_kept_worn v_kept_last v_kept_bend v_kept_tall v_wearing_size v_wearing_stepCount v_wearing_draftCount v_wearing_place v_wearing_fault v_wearing_stacked v_wearing_tape v_wearing_steps v_wearing_draft v_wearing_stack v_planned_size v_planned_trial_rows v_planned_trial_cols v_planned_trial_high v_planned_trial_wide v_planned_trial_folds v_planned_trial_wrong v_planned_trial_more v_planned_trial_rowOf v_planned_trial_colOf v_planned_trial_below v_planned_trial_face v_planned_trial_worn v_planned_trial_last v_planned_trial_bend v_planned_trial_tall v_planned_lines v_planned_ways v_search_found v_search_wrong v_search_more v_search_folds v_search_wanted v_search_levels0_rows v_search_levels0_cols v_search_levels0_high v_search_levels0_wide v_search_levels0_folds v_search_levels0_wrong v_search_levels0_more v_search_levels0_rowOf v_search_levels0_colOf v_search_levels0_below v_search_levels0_face v_search_levels0_worn v_search_levels0_last v_search_levels0_bend v_search_levels0_tall v_search_levels1_rows v_search_levels1_cols v_search_levels1_high v_search_levels1_wide v_search_levels1_folds v_search_levels1_wrong v_search_levels1_more v_search_levels1_rowOf v_search_levels1_colOf v_search_levels1_below v_search_levels1_face v_search_levels1_worn v_search_levels1_last v_search_levels1_bend v_search_levels1_tall v_search_levels2_rows v_search_levels2_cols v_search_levels2_high v_search_levels2_wide v_search_levels2_folds v_search_levels2_wrong v_search_levels2_more v_search_levels2_rowOf v_search_levels2_colOf v_search_levels2_below v_search_levels2_face v_search_levels2_worn v_search_levels2_last v_search_levels2_bend v_search_levels2_tall v_search_levels3_rows v_search_levels3_cols v_search_levels3_high v_search_levels3_wide v_search_levels3_folds v_search_levels3_wrong v_search_levels3_more v_search_levels3_rowOf v_search_levels3_colOf v_search_levels3_below v_search_levels3_face v_search_levels3_worn v_search_levels3_last v_search_levels3_bend v_search_levels3_tall v_search_path v_search_best v_strip_list v_strip_found v_strip_at v_changes_value v_changes_done v_changes_size v_changes_before v_changes_after v_foldings_size v_foldings_ran v_foldings_number v_foldings_kinds v_foldings_trace v_shelves0_holds v_shelves0_body v_shelves0_sort v_shelves0_size v_shelves0_items v_shelves1_holds v_shelves1_body v_shelves1_sort v_shelves1_size v_shelves1_items v_shelves2_holds v_shelves2_body v_shelves2_sort v_shelves2_size v_shelves2_items v_shelves3_holds v_shelves3_body v_shelves3_sort v_shelves3_size v_shelves3_items v_shelves4_holds v_shelves4_body v_shelves4_sort v_shelves4_size v_shelves4_items v_shelves5_holds v_shelves5_body v_shelves5_sort v_shelves5_size v_shelves5_items)) (rest := []) C0 lk_X8_303 (ctX6_hasPart (a := (fun k => a (k + 95))) (d := d - 1) (by omega) hc_261) (by omega) rfl hl.1 rfl (mm_cat rfl) dX8_shift_107 hP hD hA hS rfl rfl [false, false, false, false, false, false, false, false, false, false, false, false, false, false, false, false, false, false, false, false, false, false, false, false, false, false, false, false, false, false, false, false, false, false, false, false, false, false, false, false, false, false, false, false, false, false, false, false, false, false, false, false, false, false, false, false, false, false, false, false, false, false, false, false, false, false, false, false, false, false, false, false, false, false, false, false, false, false, false, false, false, false, false, false, false, false, false, false, false, false, false, false, false, false, false, true, true, false, false] rfl rfl rfl rfl (fun H locs hP hD hS => ?_)
                                    refine W.eq (g2 := F0 m 110 ls [.int (mm_b r_260)]) rfl ?_
                                    refine lv_if_ne (tgt := 116) hx hb dX8_shift_110 (by decide) (fun c_262 => ?_) (fun c_262 => ?_)
                                    · have hf := mm_in hf (mm_b1 c_262)
                                      refine lv_aload hx hb dX8_shift_116 (lv_at hl 1 rfl) ?_
                                      refine mm_get C0 hP iw_X6 91 rfl rfl 4 (by decide) fl_X8_299 rfl dX8_shift_118 ?_
                                      refine lv_iload_n hx hb dX8_shift_121 rfl (lv_at hl 4 rfl) ?_
                                      refine lv_aload hx hb dX8_shift_122 (lv_at hl 0 rfl) ?_
                                      refine mm_get C0 hP iw_X6 95 rfl rfl 4 (by decide) fl_X8_299 rfl dX8_shift_124 ?_
                                      refine lv_iload hx hb dX8_shift_127 (lv_at hl 6 rfl) ?_
                                      refine lv_iload hx hb dX8_shift_129 (lv_at hl 7 rfl) ?_
                                      obtain ⟨h_263, hf⟩ := mm_cks hf
                                      refine mm_copyl C0 la_X8_306 hP hD hS 92 96 rfl rfl h_263 hl.1 (by omega) (mm_cat rfl) dX8_shift_131 (w2 := (wd_X8 cI cL cS cH a v_hasImage v_now_rows v_now_cols v_now_high v_now_wide v_now_folds v_now_wrong v_now_more v_now_rowOf v_now_colOf v_now_below v_now_face v_now_worn v_now_last v_now_bend v_now_tall v_kept_rows v_kept_cols v_kept_high v_kept_wide v_kept_folds v_kept_wrong v_kept_more v_kept_rowOf v_kept_colOf v_kept_below v_kept_face v_kept_worn v_kept_last v_kept_bend v_kept_tall v_wearing_size v_wearing_stepCount v_wearing_draftCount v_wearing_place v_wearing_fault v_wearing_stacked v_wearing_tape v_wearing_steps v_wearing_draft v_wearing_stack v_planned_size v_planned_trial_rows v_planned_trial_cols v_planned_trial_high v_planned_trial_wide v_planned_trial_folds v_planned_trial_wrong v_planned_trial_more v_planned_trial_rowOf v_planned_trial_colOf v_planned_trial_below v_planned_trial_face v_planned_trial_worn v_planned_trial_last v_planned_trial_bend v_planned_trial_tall v_planned_lines v_planned_ways v_search_found v_search_wrong v_search_more v_search_folds v_search_wanted v_search_levels0_rows v_search_levels0_cols v_search_levels0_high v_search_levels0_wide v_search_levels0_folds v_search_levels0_wrong v_search_levels0_more v_search_levels0_rowOf v_search_levels0_colOf v_search_levels0_below v_search_levels0_face v_search_levels0_worn v_search_levels0_last v_search_levels0_bend v_search_levels0_tall v_search_levels1_rows v_search_levels1_cols v_search_levels1_high v_search_levels1_wide v_search_levels1_folds v_search_levels1_wrong v_search_levels1_more v_search_levels1_rowOf v_search_levels1_colOf v_search_levels1_below v_search_levels1_face v_search_levels1_worn v_search_levels1_last v_search_levels1_bend v_search_levels1_tall v_search_levels2_rows v_search_levels2_cols v_search_levels2_high v_search_levels2_wide v_search_levels2_folds v_search_levels2_wrong v_search_levels2_more v_search_levels2_rowOf v_search_levels2_colOf v_search_levels2_below v_search_levels2_face v_search_levels2_worn v_search_levels2_last v_search_levels2_bend v_search_levels2_tall v_search_levels3_rows v_search_levels3_cols v_search_levels3_high v_search_levels3_wide v_search_levels3_folds v_search_levels3_wrong v_search_levels3_more v_search_levels3_rowOf v_search_levels3_colOf v_search_levels3_below v_search_levels3_face v_search_levels3_worn v_search_levels3_last v_search_levels3_bend v_search_levels3_tall v_search_path v_search_best v_strip_list v_strip_found v_strip_at v_changes_value v_changes_done v_changes_size v_changes_before v_changes_after v_foldings_size v_foldings_ran v_foldings_number v_foldings_kinds v_foldings_trace v_shelves0_holds v_shelves0_body v_shelves0_sort v_shelves0_size v_shelves0_items v_shelves1_holds v_shelves1_body v_shelves1_sort v_shelves1_size v_shelves1_items v_shelves2_holds v_shelves2_body v_shelves2_sort v_shelves2_size v_shelves2_items v_shelves3_holds v_shelves3_body v_shelves3_sort v_shelves3_size v_shelves3_items v_shelves4_holds v_shelves4_body v_shelves4_sort v_shelves4_size (mm_cp v_shelves2_items v_shelves4_items x2 x4 x5) v_shelves5_holds v_shelves5_body v_shelves5_sort v_shelves5_size v_shelves5_items)) rfl (fun H locs hP hD hS => ?_)
                                      generalize el_264 : (mm_cp v_shelves2_items v_shelves4_items x2 x4 x5) = l_264 at hP hD
                                      have hf := mm_nms hf el_264.symm
                                      refine lv_iload hx hb dX8_shift_134 (lv_at hl 7 rfl) ?_
                                      apply mm_sub7 hf
                                      exact mm_iret C0 hP hD hS dX8_shift_136
                                    · have hf := mm_ip hf (mm_b0 c_262)
                                      refine lv_bipush (v := -13) hx hb dX8_shift_113 (by decide) ?_
                                      apply mm_sub7 hf
                                      exact mm_iret C0 hP hD hS dX8_shift_115
                              · have hf := mm_in hf c_255
                                refine lv_bipush (v := -12) hx hb dX8_shift_82 (by decide) ?_
                                apply mm_sub7 hf
                                exact mm_iret C0 hP hD hS dX8_shift_84
                        · have hf := mm_ip hf c_252
                          refine lv_bipush (v := -11) hx hb dX8_shift_48 (by decide) ?_
                          apply mm_sub7 hf
                          exact mm_iret C0 hP hD hS dX8_shift_50
                    · have hf := mm_in hf c_250
                      by_cases c_265 : x3 = (5 : Int32)
                      · have hf := mm_ip hf c_265
                        refine mm_aald 3 rfl C0 hP 86 rfl (b := a 97) (by rw [c_265]; rfl) (by rw [c_265]; rfl) dX8_shift_29 ?_
                        refine lv_astore (lv' := [(7, .ref (a 97)), (6, .ref (a 91)), (0, .ref (a 0)), (1, .int x1), (2, .int x2), (3, .int x3), (4, .int x4), (5, .int x5)]) hx hb dX8_shift_30 hl (by decide) rfl (fun ls hl => ?_)
                        refine lv_aload hx hb dX8_shift_32 (lv_at hl 1 rfl) ?_
                        refine mm_get C0 hP iw_X6 91 rfl rfl 0 (by decide) fl_X8_168 rfl dX8_shift_34 ?_
                        refine lv_if_eq (tgt := 48) hx hb dX8_shift_37 (by decide) (fun c_266 => ?_) (fun c_266 => ?_)
                        · have hf := mm_ip hf c_266
                          refine lv_bipush (v := -11) hx hb dX8_shift_48 (by decide) ?_
                          apply mm_sub7 hf
                          exact mm_iret C0 hP hD hS dX8_shift_50
                        · have hf := mm_in hf c_266
                          refine lv_aload hx hb dX8_shift_40 (lv_at hl 0 rfl) ?_
                          refine mm_get C0 hP iw_X6 97 rfl rfl 0 (by decide) fl_X8_168 rfl dX8_shift_42 ?_
                          refine lv_if_ne (tgt := 51) hx hb dX8_shift_45 (by decide) (fun c_267 => ?_) (fun c_267 => ?_)
                          · have hf := mm_in hf c_267
                            refine lv_aload hx hb dX8_shift_51 (lv_at hl 1 rfl) ?_
                            refine mm_get C0 hP iw_X6 91 rfl rfl 0 (by decide) fl_X8_168 rfl dX8_shift_53 ?_
                            refine lv_iconst (v := 2) hx hb dX8_shift_56 (by decide) ?_
                            refine lv_icmp_ne (tgt := 82) hx hb dX8_shift_57 (by decide) (fun c_268 => ?_) (fun c_268 => ?_)
                            · have hf := mm_in hf c_268
                              refine lv_bipush (v := -12) hx hb dX8_shift_82 (by decide) ?_
                              apply mm_sub7 hf
                              exact mm_iret C0 hP hD hS dX8_shift_84
                            · have hf := mm_ip hf c_268
                              refine lv_aload hx hb dX8_shift_60 (lv_at hl 0 rfl) ?_
                              refine mm_get C0 hP iw_X6 97 rfl rfl 0 (by decide) fl_X8_168 rfl dX8_shift_62 ?_
                              refine lv_iconst (v := 2) hx hb dX8_shift_65 (by decide) ?_
                              refine lv_icmp_ne (tgt := 82) hx hb dX8_shift_66 (by decide) (fun c_269 => ?_) (fun c_269 => ?_)
                              · have hf := mm_in hf c_269
                                refine lv_bipush (v := -12) hx hb dX8_shift_82 (by decide) ?_
                                apply mm_sub7 hf
                                exact mm_iret C0 hP hD hS dX8_shift_84
                              · have hf := mm_ip hf c_269
                                refine lv_aload hx hb dX8_shift_69 (lv_at hl 1 rfl) ?_
                                refine mm_get C0 hP iw_X6 91 rfl rfl 2 (by decide) fl_X8_171 rfl dX8_shift_71 ?_
                                refine lv_aload hx hb dX8_shift_74 (lv_at hl 0 rfl) ?_
                                refine mm_get C0 hP iw_X6 97 rfl rfl 2 (by decide) fl_X8_171 rfl dX8_shift_76 ?_
                                refine lv_icmp_eq (tgt := 85) hx hb dX8_shift_79 (by decide) (fun c_270 => ?_) (fun c_270 => ?_)
                                · have hf := mm_ip hf c_270
                                  refine lv_iload hx hb dX8_shift_85 (lv_at hl 7 rfl) ?_
                                  refine lv_if_lt (tgt := 113) hx hb dX8_shift_87 (by decide) (fun c_271 => ?_) (fun c_271 => ?_)
                                  · have hf := mm_ip hf c_271
                                    refine lv_bipush (v := -13) hx hb dX8_shift_113 (by decide) ?_
                                    apply mm_sub7 hf
                                    exact mm_iret C0 hP hD hS dX8_shift_115
                                  · have hf := mm_in hf c_271
                                    refine lv_aload hx hb dX8_shift_90 (lv_at hl 1 rfl) ?_
                                    refine lv_iload_n hx hb dX8_shift_92 rfl (lv_at hl 4 rfl) ?_
                                    refine lv_iload hx hb dX8_shift_93 (lv_at hl 7 rfl) ?_
                                    obtain ⟨r_272, hc_273, hf⟩ := mm_bd1s hf
                                    refine mm_callW (q0 := 91) (ci := 6) (w2 := (wd_X8 cI cL cS cH a v_hasImage v_now_rows v_now_cols v_now_high v_now_wide v_now_folds v_now_wrong v_now_more v_now_rowOf v_now_colOf v_now_below v_now_face v_now_worn v_now_last v_now_bend v_now_tall v_kept_rows v_kept_cols v_kept_high v_kept_wide v_kept_folds v_kept_wrong v_kept_more v_kept_rowOf v_kept_colOf v_kept_below v_kept_face v_kept_worn v_kept_last v_kept_bend v_kept_tall v_wearing_size v_wearing_stepCount v_wearing_draftCount v_wearing_place v_wearing_fault v_wearing_stacked v_wearing_tape v_wearing_steps v_wearing_draft v_wearing_stack v_planned_size v_planned_trial_rows v_planned_trial_cols v_planned_trial_high v_planned_trial_wide v_planned_trial_folds v_planned_trial_wrong v_planned_trial_more v_planned_trial_rowOf v_planned_trial_colOf v_planned_trial_below v_planned_trial_face v_planned_trial_worn v_planned_trial_last v_planned_trial_bend v_planned_trial_tall v_planned_lines v_planned_ways v_search_found v_search_wrong v_search_more v_search_folds v_search_wanted v_search_levels0_rows v_search_levels0_cols v_search_levels0_high v_search_levels0_wide v_search_levels0_folds v_search_levels0_wrong v_search_levels0_more v_search_levels0_rowOf v_search_levels0_colOf v_search_levels0_below v_search_levels0_face v_search_levels0_worn v_search_levels0_last v_search_levels0_bend v_search_levels0_tall v_search_levels1_rows v_search_levels1_cols v_search_levels1_high v_search_levels1_wide v_search_levels1_folds v_search_levels1_wrong v_search_levels1_more v_search_levels1_rowOf v_search_levels1_colOf v_search_levels1_below v_search_levels1_face v_search_levels1_worn v_search_levels1_last v_search_levels1_bend v_search_levels1_tall v_search_levels2_rows v_search_levels2_cols v_search_levels2_high v_search_levels2_wide v_search_levels2_folds v_search_levels2_wrong v_search_levels2_more v_search_levels2_rowOf v_search_levels2_colOf v_search_levels2_below v_search_levels2_face v_search_levels2_worn v_search_levels2_last v_search_levels2_bend v_search_levels2_tall v_search_levels3_rows v_search_levels3_cols v_search_levels3_high v_search_levels3_wide v_search_levels3_folds v_search_levels3_wrong v_search_levels3_more v_search_levels3_rowOf v_search_levels3_colOf v_search_levels3_below v_search_levels3_face v_search_levels3_worn v_search_levels3_last v_search_levels3_bend v_search_levels3_tall v_search_path v_search_best v_strip_list v_strip_found v_strip_at v_changes_value v_changes_done v_changes_size v_changes_before v_changes_after v_foldings_size v_foldings_ran v_foldings_number v_foldings_kinds v_foldings_trace v_shelves0_holds v_shelves0_body v_shelves0_sort v_shelves0_size v_shelves0_items v_shelves1_holds v_shelves1_body v_shelves1_sort v_shelves1_size v_shelves1_items v_shelves2_holds v_shelves2_body v_shelves2_sort v_shelves2_size v_shelves2_items v_shelves3_holds v_shelves3_body v_shelves3_sort v_shelves3_size v_shelves3_items v_shelves4_holds v_shelves4_body v_shelves4_sort v_shelves4_size v_shelves4_items v_shelves5_holds v_shelves5_body v_shelves5_sort v_shelves5_size v_shelves5_items)) (rest := []) C0 lk_X8_303 (ctX6_hasPart (a := (fun k => a (k + 91))) (d := d - 1) (by omega) hc_273) (by omega) rfl hl.1 rfl (mm_cat rfl) dX8_shift_95 hP hD hA hS rfl rfl [false, false, false, false, false, false, false, false, false, false, false, false, false, false, false, false, false, false, false, false, false, false, false, false, false, false, false, false, false, false, false, false, false, false, false, false, false, false, false, false, false, false, false, false, false, false, false, false, false, false, false, false, false, false, false, false, false, false, false, false, false, false, false, false, false, false, false, false, false, false, false, false, false, false, false, false, false, false, false, false, false, false, false, false, false, false, false, false, false, false, false, true, true, false, false, false, false, false, false] rfl rfl rfl rfl (fun H locs hP hD hS => ?_)
                                    refine W.eq (g2 := F0 m 98 ls [.int (mm_b r_272)]) rfl ?_
                                    refine lv_if_eq (tgt := 113) hx hb dX8_shift_98 (by decide) (fun c_274 => ?_) (fun c_274 => ?_)
                                    · have hf := mm_ip hf (mm_b0 c_274)
                                      refine lv_bipush (v := -13) hx hb dX8_shift_113 (by decide) ?_
                                      apply mm_sub7 hf
                                      exact mm_iret C0 hP hD hS dX8_shift_115
                                    · have hf := mm_in hf (mm_b1 c_274)
                                      refine lv_aload hx hb dX8_shift_101 (lv_at hl 0 rfl) ?_
                                      refine lv_iload hx hb dX8_shift_103 (lv_at hl 6 rfl) ?_
                                      refine lv_iload hx hb dX8_shift_105 (lv_at hl 7 rfl) ?_
                                      obtain ⟨r_275, hc_276, hf⟩ := mm_bd1s hf
                                      refine mm_callW (q0 := 97) (ci := 6) (w2 := (wd_X8 cI cL cS cH a v_hasImage v_now_rows v_now_cols v_now_high v_now_wide v_now_folds v_now_wrong v_now_more v_now_rowOf v_now_colOf v_now_below v_now_face v_now_worn v_now_last v_now_bend v_now_tall v_kept_rows v_kept_cols v_kept_high v_kept_wide v_kept_folds v_kept_wrong v_kept_more v_kept_rowOf v_kept_colOf v_kept_below v_kept_face v_kept_worn v_kept_last v_kept_bend v_kept_tall v_wearing_size v_wearing_stepCount v_wearing_draftCount v_wearing_place v_wearing_fault v_wearing_stacked v_wearing_tape v_wearing_steps v_wearing_draft v_wearing_stack v_planned_size v_planned_trial_rows v_planned_trial_cols v_planned_trial_high v_planned_trial_wide v_planned_trial_folds v_planned_trial_wrong v_planned_trial_more v_planned_trial_rowOf v_planned_trial_colOf v_planned_trial_below v_planned_trial_face v_planned_trial_worn v_planned_trial_last v_planned_trial_bend v_planned_trial_tall v_planned_lines v_planned_ways v_search_found v_search_wrong v_search_more v_search_folds v_search_wanted v_search_levels0_rows v_search_levels0_cols v_search_levels0_high v_search_levels0_wide v_search_levels0_folds v_search_levels0_wrong v_search_levels0_more v_search_levels0_rowOf v_search_levels0_colOf v_search_levels0_below v_search_levels0_face v_search_levels0_worn v_search_levels0_last v_search_levels0_bend v_search_levels0_tall v_search_levels1_rows v_search_levels1_cols v_search_levels1_high v_search_levels1_wide v_search_levels1_folds v_search_levels1_wrong v_search_levels1_more v_search_levels1_rowOf v_search_levels1_colOf v_search_levels1_below v_search_levels1_face v_search_levels1_worn v_search_levels1_last v_search_levels1_bend v_search_levels1_tall v_search_levels2_rows v_search_levels2_cols v_search_levels2_high v_search_levels2_wide v_search_levels2_folds v_search_levels2_wrong v_search_levels2_more v_search_levels2_rowOf v_search_levels2_colOf v_search_levels2_below v_search_levels2_face v_search_levels2_worn v_search_levels2_last v_search_levels2_bend v_search_levels2_tall v_search_levels3_rows v_search_levels3_cols v_search_levels3_high v_search_levels3_wide v_search_levels3_folds v_search_levels3_wrong v_search_levels3_more v_search_levels3_rowOf v_search_levels3_colOf v_search_levels3_below v_search_levels3_face v_search_levels3_worn v_search_levels3_last v_search_levels3_bend v_search_levels3_tall v_search_path v_search_best v_strip_list v_strip_found v_strip_at v_changes_value v_changes_done v_changes_size v_changes_before v_changes_after v_foldings_size v_foldings_ran v_foldings_number v_foldings_kinds v_foldings_trace v_shelves0_holds v_shelves0_body v_shelves0_sort v_shelves0_size v_shelves0_items v_shelves1_holds v_shelves1_body v_shelves1_sort v_shelves1_size v_shelves1_items v_shelves2_holds v_shelves2_body v_shelves2_sort v_shelves2_size v_shelves2_items v_shelves3_holds v_shelves3_body v_shelves3_sort v_shelves3_size v_shelves3_items v_shelves4_holds v_shelves4_body v_shelves4_sort v_shelves4_size v_shelves4_items v_shelves5_holds v_shelves5_body v_shelves5_sort v_shelves5_size v_shelves5_items)) (rest := []) C0 lk_X8_303 (ctX6_hasPart (a := (fun k => a (k + 97))) (d := d - 1) (by omega) hc_276) (by omega) rfl hl.1 rfl (mm_cat rfl) dX8_shift_107 hP hD hA hS rfl rfl [false, false, false, false, false, false, false, false, false, false, false, false, false, false, false, false, false, false, false, false, false, false, false, false, false, false, false, false, false, false, false, false, false, false, false, false, false, false, false, false, false, false, false, false, false, false, false, false, false, false, false, false, false, false, false, false, false, false, false, false, false, false, false, false, false, false, false, false, false, false, false, false, false, false, false, false, false, false, false, false, false, false, false, false, false, false, false, false, false, false, false, false, false, false, false, false, false, true, true] rfl rfl rfl rfl (fun H locs hP hD hS => ?_)
                                      refine W.eq (g2 := F0 m 110 ls [.int (mm_b r_275)]) rfl ?_
                                      refine lv_if_ne (tgt := 116) hx hb dX8_shift_110 (by decide) (fun c_277 => ?_) (fun c_277 => ?_)
                                      · have hf := mm_in hf (mm_b1 c_277)
                                        refine lv_aload hx hb dX8_shift_116 (lv_at hl 1 rfl) ?_
                                        refine mm_get C0 hP iw_X6 91 rfl rfl 4 (by decide) fl_X8_299 rfl dX8_shift_118 ?_
                                        refine lv_iload_n hx hb dX8_shift_121 rfl (lv_at hl 4 rfl) ?_
                                        refine lv_aload hx hb dX8_shift_122 (lv_at hl 0 rfl) ?_
                                        refine mm_get C0 hP iw_X6 97 rfl rfl 4 (by decide) fl_X8_299 rfl dX8_shift_124 ?_
                                        refine lv_iload hx hb dX8_shift_127 (lv_at hl 6 rfl) ?_
                                        refine lv_iload hx hb dX8_shift_129 (lv_at hl 7 rfl) ?_
                                        obtain ⟨h_278, hf⟩ := mm_cks hf
                                        refine mm_copyl C0 la_X8_306 hP hD hS 92 98 rfl rfl h_278 hl.1 (by omega) (mm_cat rfl) dX8_shift_131 (w2 := (wd_X8 cI cL cS cH a v_hasImage v_now_rows v_now_cols v_now_high v_now_wide v_now_folds v_now_wrong v_now_more v_now_rowOf v_now_colOf v_now_below v_now_face v_now_worn v_now_last v_now_bend v_now_tall v_kept_rows v_kept_cols v_kept_high v_kept_wide v_kept_folds v_kept_wrong v_kept_more v_kept_rowOf v_kept_colOf v_kept_below v_kept_face v_kept_worn v_kept_last v_kept_bend v_kept_tall v_wearing_size v_wearing_stepCount v_wearing_draftCount v_wearing_place v_wearing_fault v_wearing_stacked v_wearing_tape v_wearing_steps v_wearing_draft v_wearing_stack v_planned_size v_planned_trial_rows v_planned_trial_cols v_planned_trial_high v_planned_trial_wide v_planned_trial_folds v_planned_trial_wrong v_planned_trial_more v_planned_trial_rowOf v_planned_trial_colOf v_planned_trial_below v_planned_trial_face v_planned_trial_worn v_planned_trial_last v_planned_trial_bend v_planned_trial_tall v_planned_lines v_planned_ways v_search_found v_search_wrong v_search_more v_search_folds v_search_wanted v_search_levels0_rows v_search_levels0_cols v_search_levels0_high v_search_levels0_wide v_search_levels0_folds v_search_levels0_wrong v_search_levels0_more v_search_levels0_rowOf v_search_levels0_colOf v_search_levels0_below v_search_levels0_face v_search_levels0_worn v_search_levels0_last v_search_levels0_bend v_search_levels0_tall v_search_levels1_rows v_search_levels1_cols v_search_levels1_high v_search_levels1_wide v_search_levels1_folds v_search_levels1_wrong v_search_levels1_more v_search_levels1_rowOf v_search_levels1_colOf v_search_levels1_below v_search_levels1_face v_search_levels1_worn v_search_levels1_last v_search_levels1_bend v_search_levels1_tall v_search_levels2_rows v_search_levels2_cols v_search_levels2_high v_search_levels2_wide v_search_levels2_folds v_search_levels2_wrong v_search_levels2_more v_search_levels2_rowOf v_search_levels2_colOf v_search_levels2_below v_search_levels2_face v_search_levels2_worn v_search_levels2_last v_search_levels2_bend v_search_levels2_tall v_search_levels3_rows v_search_levels3_cols v_search_levels3_high v_search_levels3_wide v_search_levels3_folds v_search_levels3_wrong v_search_levels3_more v_search_levels3_rowOf v_search_levels3_colOf v_search_levels3_below v_search_levels3_face v_search_levels3_worn v_search_levels3_last v_search_levels3_bend v_search_levels3_tall v_search_path v_search_best v_strip_list v_strip_found v_strip_at v_changes_value v_changes_done v_changes_size v_changes_before v_changes_after v_foldings_size v_foldings_ran v_foldings_number v_foldings_kinds v_foldings_trace v_shelves0_holds v_shelves0_body v_shelves0_sort v_shelves0_size v_shelves0_items v_shelves1_holds v_shelves1_body v_shelves1_sort v_shelves1_size v_shelves1_items v_shelves2_holds v_shelves2_body v_shelves2_sort v_shelves2_size v_shelves2_items v_shelves3_holds v_shelves3_body v_shelves3_sort v_shelves3_size v_shelves3_items v_shelves4_holds v_shelves4_body v_shelves4_sort v_shelves4_size v_shelves4_items v_shelves5_holds v_shelves5_body v_shelves5_sort v_shelves5_size (mm_cp v_shelves2_items v_shelves5_items x2 x4 x5))) rfl (fun H locs hP hD hS => ?_)
                                        generalize el_279 : (mm_cp v_shelves2_items v_shelves5_items x2 x4 x5) = l_279 at hP hD
                                        have hf := mm_nms hf el_279.symm
                                        refine lv_iload hx hb dX8_shift_134 (lv_at hl 7 rfl) ?_
                                        apply mm_sub7 hf
                                        exact mm_iret C0 hP hD hS dX8_shift_136
                                      · have hf := mm_ip hf (mm_b0 c_277)
                                        refine lv_bipush (v := -13) hx hb dX8_shift_113 (by decide) ?_
                                        apply mm_sub7 hf
                                        exact mm_iret C0 hP hD hS dX8_shift_115
                                · have hf := mm_in hf c_270
                                  refine lv_bipush (v := -12) hx hb dX8_shift_82 (by decide) ?_
                                  apply mm_sub7 hf
                                  exact mm_iret C0 hP hD hS dX8_shift_84
                          · have hf := mm_ip hf c_267
                            refine lv_bipush (v := -11) hx hb dX8_shift_48 (by decide) ?_
                            apply mm_sub7 hf
                            exact mm_iret C0 hP hD hS dX8_shift_50
                      · have hf := mm_in hf c_265
                        cases hf
          · have hf := mm_in hf c_189
            by_cases c_280 : x1 = (3 : Int32)
            · have hf := mm_ip hf c_280
              refine mm_aald 3 rfl C0 hP 86 rfl (b := a 93) (by rw [c_280]; rfl) (by rw [c_280]; rfl) dX8_shift_21 ?_
              refine lv_astore (lv' := [(6, .ref (a 93)), (0, .ref (a 0)), (1, .int x1), (2, .int x2), (3, .int x3), (4, .int x4), (5, .int x5)]) hx hb dX8_shift_22 hl (by decide) rfl (fun ls hl => ?_)
              refine lv_aload_n hx hb dX8_shift_24 rfl (lv_at hl 1 rfl) ?_
              refine mm_get C0 hP iw_X8 0 rfl rfl 8 (by decide) fl_X8_63 rfl dX8_shift_25 ?_
              refine lv_iload_n hx hb dX8_shift_28 rfl (lv_at hl 4 rfl) ?_
              by_cases c_281 : x3 = (0 : Int32)
              · have hf := mm_ip hf c_281
                refine mm_aald 3 rfl C0 hP 86 rfl (b := a 87) (by rw [c_281]; rfl) (by rw [c_281]; rfl) dX8_shift_29 ?_
                refine lv_astore (lv' := [(7, .ref (a 87)), (6, .ref (a 93)), (0, .ref (a 0)), (1, .int x1), (2, .int x2), (3, .int x3), (4, .int x4), (5, .int x5)]) hx hb dX8_shift_30 hl (by decide) rfl (fun ls hl => ?_)
                refine lv_aload hx hb dX8_shift_32 (lv_at hl 1 rfl) ?_
                refine mm_get C0 hP iw_X6 93 rfl rfl 0 (by decide) fl_X8_168 rfl dX8_shift_34 ?_
                refine lv_if_eq (tgt := 48) hx hb dX8_shift_37 (by decide) (fun c_282 => ?_) (fun c_282 => ?_)
                · have hf := mm_ip hf c_282
                  refine lv_bipush (v := -11) hx hb dX8_shift_48 (by decide) ?_
                  apply mm_sub7 hf
                  exact mm_iret C0 hP hD hS dX8_shift_50
                · have hf := mm_in hf c_282
                  refine lv_aload hx hb dX8_shift_40 (lv_at hl 0 rfl) ?_
                  refine mm_get C0 hP iw_X6 87 rfl rfl 0 (by decide) fl_X8_168 rfl dX8_shift_42 ?_
                  refine lv_if_ne (tgt := 51) hx hb dX8_shift_45 (by decide) (fun c_283 => ?_) (fun c_283 => ?_)
                  · have hf := mm_in hf c_283
                    refine lv_aload hx hb dX8_shift_51 (lv_at hl 1 rfl) ?_
                    refine mm_get C0 hP iw_X6 93 rfl rfl 0 (by decide) fl_X8_168 rfl dX8_shift_53 ?_
                    refine lv_iconst (v := 2) hx hb dX8_shift_56 (by decide) ?_
                    refine lv_icmp_ne (tgt := 82) hx hb dX8_shift_57 (by decide) (fun c_284 => ?_) (fun c_284 => ?_)
                    · have hf := mm_in hf c_284
                      refine lv_bipush (v := -12) hx hb dX8_shift_82 (by decide) ?_
                      apply mm_sub7 hf
                      exact mm_iret C0 hP hD hS dX8_shift_84
                    · have hf := mm_ip hf c_284
                      refine lv_aload hx hb dX8_shift_60 (lv_at hl 0 rfl) ?_
                      refine mm_get C0 hP iw_X6 87 rfl rfl 0 (by decide) fl_X8_168 rfl dX8_shift_62 ?_
                      refine lv_iconst (v := 2) hx hb dX8_shift_65 (by decide) ?_
                      refine lv_icmp_ne (tgt := 82) hx hb dX8_shift_66 (by decide) (fun c_285 => ?_) (fun c_285 => ?_)
                      · have hf := mm_in hf c_285
                        refine lv_bipush (v := -12) hx hb dX8_shift_82 (by decide) ?_
                        apply mm_sub7 hf
                        exact mm_iret C0 hP hD hS dX8_shift_84
                      · have hf := mm_ip hf c_285
                        refine lv_aload hx hb dX8_shift_69 (lv_at hl 1 rfl) ?_
                        refine mm_get C0 hP iw_X6 93 rfl rfl 2 (by decide) fl_X8_171 rfl dX8_shift_71 ?_
                        refine lv_aload hx hb dX8_shift_74 (lv_at hl 0 rfl) ?_
                        refine mm_get C0 hP iw_X6 87 rfl rfl 2 (by decide) fl_X8_171 rfl dX8_shift_76 ?_
                        refine lv_icmp_eq (tgt := 85) hx hb dX8_shift_79 (by decide) (fun c_286 => ?_) (fun c_286 => ?_)
                        · have hf := mm_ip hf c_286
                          refine lv_iload hx hb dX8_shift_85 (lv_at hl 7 rfl) ?_
                          refine lv_if_lt (tgt := 113) hx hb dX8_shift_87 (by decide) (fun c_287 => ?_) (fun c_287 => ?_)
                          · have hf := mm_ip hf c_287
                            refine lv_bipush (v := -13) hx hb dX8_shift_113 (by decide) ?_
                            apply mm_sub7 hf
                            exact mm_iret C0 hP hD hS dX8_shift_115
                          · have hf := mm_in hf c_287
                            refine lv_aload hx hb dX8_shift_90 (lv_at hl 1 rfl) ?_
                            refine lv_iload_n hx hb dX8_shift_92 rfl (lv_at hl 4 rfl) ?_
                            refine lv_iload hx hb dX8_shift_93 (lv_at hl 7 rfl) ?_
                            obtain ⟨r_288, hc_289, hf⟩ := mm_bd1s hf
                            refine mm_callW (q0 := 93) (ci := 6) (w2 := (wd_X8 cI cL cS cH a v_hasImage v_now_rows v_now_cols v_now_high v_now_wide v_now_folds v_now_wrong v_now_more v_now_rowOf v_now_colOf v_now_below v_now_face v_now_worn v_now_last v_now_bend v_now_tall v_kept_rows v_kept_cols v_kept_high v_kept_wide v_kept_folds v_kept_wrong v_kept_more v_kept_rowOf v_kept_colOf v_kept_below v_kept_face v_kept_worn v_kept_last v_kept_bend v_kept_tall v_wearing_size v_wearing_stepCount v_wearing_draftCount v_wearing_place v_wearing_fault v_wearing_stacked v_wearing_tape v_wearing_steps v_wearing_draft v_wearing_stack v_planned_size v_planned_trial_rows v_planned_trial_cols v_planned_trial_high v_planned_trial_wide v_planned_trial_folds v_planned_trial_wrong v_planned_trial_more v_planned_trial_rowOf v_planned_trial_colOf v_planned_trial_below v_planned_trial_face v_planned_trial_worn v_planned_trial_last v_planned_trial_bend v_planned_trial_tall v_planned_lines v_planned_ways v_search_found v_search_wrong v_search_more v_search_folds v_search_wanted v_search_levels0_rows v_search_levels0_cols v_search_levels0_high v_search_levels0_wide v_search_levels0_folds v_search_levels0_wrong v_search_levels0_more v_search_levels0_rowOf v_search_levels0_colOf v_search_levels0_below v_search_levels0_face v_search_levels0_worn v_search_levels0_last v_search_levels0_bend v_search_levels0_tall v_search_levels1_rows v_search_levels1_cols v_search_levels1_high v_search_levels1_wide v_search_levels1_folds v_search_levels1_wrong v_search_levels1_more v_search_levels1_rowOf v_search_levels1_colOf v_search_levels1_below v_search_levels1_face v_search_levels1_worn v_search_levels1_last v_search_levels1_bend v_search_levels1_tall v_search_levels2_rows v_search_levels2_cols v_search_levels2_high v_search_levels2_wide v_search_levels2_folds v_search_levels2_wrong v_search_levels2_more v_search_levels2_rowOf v_search_levels2_colOf v_search_levels2_below v_search_levels2_face v_search_levels2_worn v_search_levels2_last v_search_levels2_bend v_search_levels2_tall v_search_levels3_rows v_search_levels3_cols v_search_levels3_high v_search_levels3_wide v_search_levels3_folds v_search_levels3_wrong v_search_levels3_more v_search_levels3_rowOf v_search_levels3_colOf v_search_levels3_below v_search_levels3_face v_search_levels3_worn v_search_levels3_last v_search_levels3_bend v_search_levels3_tall v_search_path v_search_best v_strip_list v_strip_found v_strip_at v_changes_value v_changes_done v_changes_size v_changes_before v_changes_after v_foldings_size v_foldings_ran v_foldings_number v_foldings_kinds v_foldings_trace v_shelves0_holds v_shelves0_body v_shelves0_sort v_shelves0_size v_shelves0_items v_shelves1_holds v_shelves1_body v_shelves1_sort v_shelves1_size v_shelves1_items v_shelves2_holds v_shelves2_body v_shelves2_sort v_shelves2_size v_shelves2_items v_shelves3_holds v_shelves3_body v_shelves3_sort v_shelves3_size v_shelves3_items v_shelves4_holds v_shelves4_body v_shelves4_sort v_shelves4_size v_shelves4_items v_shelves5_holds v_shelves5_body v_shelves5_sort v_shelves5_size v_shelves5_items)) (rest := []) C0 lk_X8_303 (ctX6_hasPart (a := (fun k => a (k + 93))) (d := d - 1) (by omega) hc_289) (by omega) rfl hl.1 rfl (mm_cat rfl) dX8_shift_95 hP hD hA hS rfl rfl [false, false, false, false, false, false, false, false, false, false, false, false, false, false, false, false, false, false, false, false, false, false, false, false, false, false, false, false, false, false, false, false, false, false, false, false, false, false, false, false, false, false, false, false, false, false, false, false, false, false, false, false, false, false, false, false, false, false, false, false, false, false, false, false, false, false, false, false, false, false, false, false, false, false, false, false, false, false, false, false, false, false, false, false, false, false, false, false, false, false, false, false, false, true, true, false, false, false, false] rfl rfl rfl rfl (fun H locs hP hD hS => ?_)
                            refine W.eq (g2 := F0 m 98 ls [.int (mm_b r_288)]) rfl ?_
                            refine lv_if_eq (tgt := 113) hx hb dX8_shift_98 (by decide) (fun c_290 => ?_) (fun c_290 => ?_)
                            · have hf := mm_ip hf (mm_b0 c_290)
                              refine lv_bipush (v := -13) hx hb dX8_shift_113 (by decide) ?_
                              apply mm_sub7 hf
                              exact mm_iret C0 hP hD hS dX8_shift_115
                            · have hf := mm_in hf (mm_b1 c_290)
                              refine lv_aload hx hb dX8_shift_101 (lv_at hl 0 rfl) ?_
                              refine lv_iload hx hb dX8_shift_103 (lv_at hl 6 rfl) ?_
                              refine lv_iload hx hb dX8_shift_105 (lv_at hl 7 rfl) ?_
                              obtain ⟨r_291, hc_292, hf⟩ := mm_bd1s hf
                              refine mm_callW (q0 := 87) (ci := 6) (w2 := (wd_X8 cI cL cS cH a v_hasImage v_now_rows v_now_cols v_now_high v_now_wide v_now_folds v_now_wrong v_now_more v_now_rowOf v_now_colOf v_now_below v_now_face v_now_worn v_now_last v_now_bend v_now_tall v_kept_rows v_kept_cols v_kept_high v_kept_wide v_kept_folds v_kept_wrong v_kept_more v_kept_rowOf v_kept_colOf v_kept_below v_kept_face v_kept_worn v_kept_last v_kept_bend v_kept_tall v_wearing_size v_wearing_stepCount v_wearing_draftCount v_wearing_place v_wearing_fault v_wearing_stacked v_wearing_tape v_wearing_steps v_wearing_draft v_wearing_stack v_planned_size v_planned_trial_rows v_planned_trial_cols v_planned_trial_high v_planned_trial_wide v_planned_trial_folds v_planned_trial_wrong v_planned_trial_more v_planned_trial_rowOf v_planned_trial_colOf v_planned_trial_below v_planned_trial_face v_planned_trial_worn v_planned_trial_last v_planned_trial_bend v_planned_trial_tall v_planned_lines v_planned_ways v_search_found v_search_wrong v_search_more v_search_folds v_search_wanted v_search_levels0_rows v_search_levels0_cols v_search_levels0_high v_search_levels0_wide v_search_levels0_folds v_search_levels0_wrong v_search_levels0_more v_search_levels0_rowOf v_search_levels0_colOf v_search_levels0_below v_search_levels0_face v_search_levels0_worn v_search_levels0_last v_search_levels0_bend v_search_levels0_tall v_search_levels1_rows v_search_levels1_cols v_search_levels1_high v_search_levels1_wide v_search_levels1_folds v_search_levels1_wrong v_search_levels1_more v_search_levels1_rowOf v_search_levels1_colOf v_search_levels1_below v_search_levels1_face v_search_levels1_worn v_search_levels1_last v_search_levels1_bend v_search_levels1_tall v_search_levels2_rows v_search_levels2_cols v_search_levels2_high v_search_levels2_wide v_search_levels2_folds v_search_levels2_wrong v_search_levels2_more v_search_levels2_rowOf v_search_levels2_colOf v_search_levels2_below v_search_levels2_face v_search_levels2_worn v_search_levels2_last v_search_levels2_bend v_search_levels2_tall v_search_levels3_rows v_search_levels3_cols v_search_levels3_high v_search_levels3_wide v_search_levels3_folds v_search_levels3_wrong v_search_levels3_more v_search_levels3_rowOf v_search_levels3_colOf v_search_levels3_below v_search_levels3_face v_search_levels3_worn v_search_levels3_last v_search_levels3_bend v_search_levels3_tall v_search_path v_search_best v_strip_list v_strip_found v_strip_at v_changes_value v_changes_done v_changes_size v_changes_before v_changes_after v_foldings_size v_foldings_ran v_foldings_number v_foldings_kinds v_foldings_trace v_shelves0_holds v_shelves0_body v_shelves0_sort v_shelves0_size v_shelves0_items v_shelves1_holds v_shelves1_body v_shelves1_sort v_shelves1_size v_shelves1_items v_shelves2_holds v_shelves2_body v_shelves2_sort v_shelves2_size v_shelves2_items v_shelves3_holds v_shelves3_body v_shelves3_sort v_shelves3_size v_shelves3_items v_shelves4_holds v_shelves4_body v_shelves4_sort v_shelves4_size v_shelves4_items v_shelves5_holds v_shelves5_body v_shelves5_sort v_shelves5_size v_shelves5_items)) (rest := []) C0 lk_X8_303 (ctX6_hasPart (a := (fun k => a (k + 87))) (d := d - 1) (by omega) hc_292) (by omega) rfl hl.1 rfl (mm_cat rfl) dX8_shift_107 hP hD hA hS rfl rfl [false, false, false, false, false, false, false, false, false, false, false, false, false, false, false, false, false, false, false, false, false, false, false, false, false, false, false, false, false, false, false, false, false, false, false, false, false, false, false, false, false, false, false, false, false, false, false, false, false, false, false, false, false, false, false, false, false, false, false, false, false, false, false, false, false, false, false, false, false, false, false, false, false, false, false, false, false, false, false, false, false, false, false, false, false, false, false, true, true, false, false, false, false, false, false, false, false, false, false] rfl rfl rfl rfl (fun H locs hP hD hS => ?_)
                              refine W.eq (g2 := F0 m 110 ls [.int (mm_b r_291)]) rfl ?_
                              refine lv_if_ne (tgt := 116) hx hb dX8_shift_110 (by decide) (fun c_293 => ?_) (fun c_293 => ?_)
                              · have hf := mm_in hf (mm_b1 c_293)
                                refine lv_aload hx hb dX8_shift_116 (lv_at hl 1 rfl) ?_
                                refine mm_get C0 hP iw_X6 93 rfl rfl 4 (by decide) fl_X8_299 rfl dX8_shift_118 ?_
                                refine lv_iload_n hx hb dX8_shift_121 rfl (lv_at hl 4 rfl) ?_
                                refine lv_aload hx hb dX8_shift_122 (lv_at hl 0 rfl) ?_
                                refine mm_get C0 hP iw_X6 87 rfl rfl 4 (by decide) fl_X8_299 rfl dX8_shift_124 ?_
                                refine lv_iload hx hb dX8_shift_127 (lv_at hl 6 rfl) ?_
                                refine lv_iload hx hb dX8_shift_129 (lv_at hl 7 rfl) ?_
                                obtain ⟨h_294, hf⟩ := mm_cks hf
                                refine mm_copyl C0 la_X8_306 hP hD hS 94 88 rfl rfl h_294 hl.1 (by omega) (mm_cat rfl) dX8_shift_131 (w2 := (wd_X8 cI cL cS cH a v_hasImage v_now_rows v_now_cols v_now_high v_now_wide v_now_folds v_now_wrong v_now_more v_now_rowOf v_now_colOf v_now_below v_now_face v_now_worn v_now_last v_now_bend v_now_tall v_kept_rows v_kept_cols v_kept_high v_kept_wide v_kept_folds v_kept_wrong v_kept_more v_kept_rowOf v_kept_colOf v_kept_below v_kept_face v_kept_worn v_kept_last v_kept_bend v_kept_tall v_wearing_size v_wearing_stepCount v_wearing_draftCount v_wearing_place v_wearing_fault v_wearing_stacked v_wearing_tape v_wearing_steps v_wearing_draft v_wearing_stack v_planned_size v_planned_trial_rows v_planned_trial_cols v_planned_trial_high v_planned_trial_wide v_planned_trial_folds v_planned_trial_wrong v_planned_trial_more v_planned_trial_rowOf v_planned_trial_colOf v_planned_trial_below v_planned_trial_face v_planned_trial_worn v_planned_trial_last v_planned_trial_bend v_planned_trial_tall v_planned_lines v_planned_ways v_search_found v_search_wrong v_search_more v_search_folds v_search_wanted v_search_levels0_rows v_search_levels0_cols v_search_levels0_high v_search_levels0_wide v_search_levels0_folds v_search_levels0_wrong v_search_levels0_more v_search_levels0_rowOf v_search_levels0_colOf v_search_levels0_below v_search_levels0_face v_search_levels0_worn v_search_levels0_last v_search_levels0_bend v_search_levels0_tall v_search_levels1_rows v_search_levels1_cols v_search_levels1_high v_search_levels1_wide v_search_levels1_folds v_search_levels1_wrong v_search_levels1_more v_search_levels1_rowOf v_search_levels1_colOf v_search_levels1_below v_search_levels1_face v_search_levels1_worn v_search_levels1_last v_search_levels1_bend v_search_levels1_tall v_search_levels2_rows v_search_levels2_cols v_search_levels2_high v_search_levels2_wide v_search_levels2_folds v_search_levels2_wrong v_search_levels2_more v_search_levels2_rowOf v_search_levels2_colOf v_search_levels2_below v_search_levels2_face v_search_levels2_worn v_search_levels2_last v_search_levels2_bend v_search_levels2_tall v_search_levels3_rows v_search_levels3_cols v_search_levels3_high v_search_levels3_wide v_search_levels3_folds v_search_levels3_wrong v_search_levels3_more v_search_levels3_rowOf v_search_levels3_colOf v_search_levels3_below v_search_levels3_face v_search_levels3_worn v_search_levels3_last v_search_levels3_bend v_search_levels3_tall v_search_path v_search_best v_strip_list v_strip_found v_strip_at v_changes_value v_changes_done v_changes_size v_changes_before v_changes_after v_foldings_size v_foldings_ran v_foldings_number v_foldings_kinds v_foldings_trace v_shelves0_holds v_shelves0_body v_shelves0_sort v_shelves0_size (mm_cp v_shelves3_items v_shelves0_items x2 x4 x5) v_shelves1_holds v_shelves1_body v_shelves1_sort v_shelves1_size v_shelves1_items v_shelves2_holds v_shelves2_body v_shelves2_sort v_shelves2_size v_shelves2_items v_shelves3_holds v_shelves3_body v_shelves3_sort v_shelves3_size v_shelves3_items v_shelves4_holds v_shelves4_body v_shelves4_sort v_shelves4_size v_shelves4_items v_shelves5_holds v_shelves5_body v_shelves5_sort v_shelves5_size v_shelves5_items)) rfl (fun H locs hP hD hS => ?_)
                                generalize el_295 : (mm_cp v_shelves3_items v_shelves0_items x2 x4 x5) = l_295 at hP hD
                                have hf := mm_nms hf el_295.symm
                                refine lv_iload hx hb dX8_shift_134 (lv_at hl 7 rfl) ?_
                                apply mm_sub7 hf
                                exact mm_iret C0 hP hD hS dX8_shift_136
                              · have hf := mm_ip hf (mm_b0 c_293)
                                refine lv_bipush (v := -13) hx hb dX8_shift_113 (by decide) ?_
                                apply mm_sub7 hf
                                exact mm_iret C0 hP hD hS dX8_shift_115
                        · have hf := mm_in hf c_286
                          refine lv_bipush (v := -12) hx hb dX8_shift_82 (by decide) ?_
                          apply mm_sub7 hf
                          exact mm_iret C0 hP hD hS dX8_shift_84
                  · have hf := mm_ip hf c_283
                    refine lv_bipush (v := -11) hx hb dX8_shift_48 (by decide) ?_
                    apply mm_sub7 hf
                    exact mm_iret C0 hP hD hS dX8_shift_50
              · have hf := mm_in hf c_281
                by_cases c_296 : x3 = (1 : Int32)
                · have hf := mm_ip hf c_296
                  refine mm_aald 3 rfl C0 hP 86 rfl (b := a 89) (by rw [c_296]; rfl) (by rw [c_296]; rfl) dX8_shift_29 ?_
                  refine lv_astore (lv' := [(7, .ref (a 89)), (6, .ref (a 93)), (0, .ref (a 0)), (1, .int x1), (2, .int x2), (3, .int x3), (4, .int x4), (5, .int x5)]) hx hb dX8_shift_30 hl (by decide) rfl (fun ls hl => ?_)
                  refine lv_aload hx hb dX8_shift_32 (lv_at hl 1 rfl) ?_
                  refine mm_get C0 hP iw_X6 93 rfl rfl 0 (by decide) fl_X8_168 rfl dX8_shift_34 ?_
                  refine lv_if_eq (tgt := 48) hx hb dX8_shift_37 (by decide) (fun c_297 => ?_) (fun c_297 => ?_)
                  · have hf := mm_ip hf c_297
                    refine lv_bipush (v := -11) hx hb dX8_shift_48 (by decide) ?_
                    apply mm_sub7 hf
                    exact mm_iret C0 hP hD hS dX8_shift_50
                  · have hf := mm_in hf c_297
                    refine lv_aload hx hb dX8_shift_40 (lv_at hl 0 rfl) ?_
                    refine mm_get C0 hP iw_X6 89 rfl rfl 0 (by decide) fl_X8_168 rfl dX8_shift_42 ?_
                    refine lv_if_ne (tgt := 51) hx hb dX8_shift_45 (by decide) (fun c_298 => ?_) (fun c_298 => ?_)
                    · have hf := mm_in hf c_298
                      refine lv_aload hx hb dX8_shift_51 (lv_at hl 1 rfl) ?_
                      refine mm_get C0 hP iw_X6 93 rfl rfl 0 (by decide) fl_X8_168 rfl dX8_shift_53 ?_
                      refine lv_iconst (v := 2) hx hb dX8_shift_56 (by decide) ?_
                      refine lv_icmp_ne (tgt := 82) hx hb dX8_shift_57 (by decide) (fun c_299 => ?_) (fun c_299 => ?_)
                      · have hf := mm_in hf c_299
                        refine lv_bipush (v := -12) hx hb dX8_shift_82 (by decide) ?_
                        apply mm_sub7 hf
                        exact mm_iret C0 hP hD hS dX8_shift_84
                      · have hf := mm_ip hf c_299
                        refine lv_aload hx hb dX8_shift_60 (lv_at hl 0 rfl) ?_
                        refine mm_get C0 hP iw_X6 89 rfl rfl 0 (by decide) fl_X8_168 rfl dX8_shift_62 ?_
                        refine lv_iconst (v := 2) hx hb dX8_shift_65 (by decide) ?_
                        refine lv_icmp_ne (tgt := 82) hx hb dX8_shift_66 (by decide) (fun c_300 => ?_) (fun c_300 => ?_)
                        · have hf := mm_in hf c_300
                          refine lv_bipush (v := -12) hx hb dX8_shift_82 (by decide) ?_
                          apply mm_sub7 hf
                          exact mm_iret C0 hP hD hS dX8_shift_84
                        · have hf := mm_ip hf c_300
                          refine lv_aload hx hb dX8_shift_69 (lv_at hl 1 rfl) ?_
                          refine mm_get C0 hP iw_X6 93 rfl rfl 2 (by decide) fl_X8_171 rfl dX8_shift_71 ?_
                          refine lv_aload hx hb dX8_shift_74 (lv_at hl 0 rfl) ?_
                          refine mm_get C0 hP iw_X6 89 rfl rfl 2 (by decide) fl_X8_171 rfl dX8_shift_76 ?_
                          refine lv_icmp_eq (tgt := 85) hx hb dX8_shift_79 (by decide) (fun c_301 => ?_) (fun c_301 => ?_)
                          · have hf := mm_ip hf c_301
                            refine lv_iload hx hb dX8_shift_85 (lv_at hl 7 rfl) ?_
                            refine lv_if_lt (tgt := 113) hx hb dX8_shift_87 (by decide) (fun c_302 => ?_) (fun c_302 => ?_)
                            · have hf := mm_ip hf c_302
                              refine lv_bipush (v := -13) hx hb dX8_shift_113 (by decide) ?_
                              apply mm_sub7 hf
                              exact mm_iret C0 hP hD hS dX8_shift_115
                            · have hf := mm_in hf c_302
                              refine lv_aload hx hb dX8_shift_90 (lv_at hl 1 rfl) ?_
                              refine lv_iload_n hx hb dX8_shift_92 rfl (lv_at hl 4 rfl) ?_
                              refine lv_iload hx hb dX8_shift_93 (lv_at hl 7 rfl) ?_
                              obtain ⟨r_303, hc_304, hf⟩ := mm_bd1s hf
                              refine mm_callW (q0 := 93) (ci := 6) (w2 := (wd_X8 cI cL cS cH a v_hasImage v_now_rows v_now_cols v_now_high v_now_wide v_now_folds v_now_wrong v_now_more v_now_rowOf v_now_colOf v_now_below v_now_face v_now_worn v_now_last v_now_bend v_now_tall v_kept_rows v_kept_cols v_kept_high v_kept_wide v_kept_folds v_kept_wrong v_kept_more v_kept_rowOf v_kept_colOf v_kept_below v_kept_face v_kept_worn v_kept_last v_kept_bend v_kept_tall v_wearing_size v_wearing_stepCount v_wearing_draftCount v_wearing_place v_wearing_fault v_wearing_stacked v_wearing_tape v_wearing_steps v_wearing_draft v_wearing_stack v_planned_size v_planned_trial_rows v_planned_trial_cols v_planned_trial_high v_planned_trial_wide v_planned_trial_folds v_planned_trial_wrong v_planned_trial_more v_planned_trial_rowOf v_planned_trial_colOf v_planned_trial_below v_planned_trial_face v_planned_trial_worn v_planned_trial_last v_planned_trial_bend v_planned_trial_tall v_planned_lines v_planned_ways v_search_found v_search_wrong v_search_more v_search_folds v_search_wanted v_search_levels0_rows v_search_levels0_cols v_search_levels0_high v_search_levels0_wide v_search_levels0_folds v_search_levels0_wrong v_search_levels0_more v_search_levels0_rowOf v_search_levels0_colOf v_search_levels0_below v_search_levels0_face v_search_levels0_worn v_search_levels0_last v_search_levels0_bend v_search_levels0_tall v_search_levels1_rows v_search_levels1_cols v_search_levels1_high v_search_levels1_wide v_search_levels1_folds v_search_levels1_wrong v_search_levels1_more v_search_levels1_rowOf v_search_levels1_colOf v_search_levels1_below v_search_levels1_face v_search_levels1_worn v_search_levels1_last v_search_levels1_bend v_search_levels1_tall v_search_levels2_rows v_search_levels2_cols v_search_levels2_high v_search_levels2_wide v_search_levels2_folds v_search_levels2_wrong v_search_levels2_more v_search_levels2_rowOf v_search_levels2_colOf v_search_levels2_below v_search_levels2_face v_search_levels2_worn v_search_levels2_last v_search_levels2_bend v_search_levels2_tall v_search_levels3_rows v_search_levels3_cols v_search_levels3_high v_search_levels3_wide v_search_levels3_folds v_search_levels3_wrong v_search_levels3_more v_search_levels3_rowOf v_search_levels3_colOf v_search_levels3_below v_search_levels3_face v_search_levels3_worn v_search_levels3_last v_search_levels3_bend v_search_levels3_tall v_search_path v_search_best v_strip_list v_strip_found v_strip_at v_changes_value v_changes_done v_changes_size v_changes_before v_changes_after v_foldings_size v_foldings_ran v_foldings_number v_foldings_kinds v_foldings_trace v_shelves0_holds v_shelves0_body v_shelves0_sort v_shelves0_size v_shelves0_items v_shelves1_holds v_shelves1_body v_shelves1_sort v_shelves1_size v_shelves1_items v_shelves2_holds v_shelves2_body v_shelves2_sort v_shelves2_size v_shelves2_items v_shelves3_holds v_shelves3_body v_shelves3_sort v_shelves3_size v_shelves3_items v_shelves4_holds v_shelves4_body v_shelves4_sort v_shelves4_size v_shelves4_items v_shelves5_holds v_shelves5_body v_shelves5_sort v_shelves5_size v_shelves5_items)) (rest := []) C0 lk_X8_303 (ctX6_hasPart (a := (fun k => a (k + 93))) (d := d - 1) (by omega) hc_304) (by omega) rfl hl.1 rfl (mm_cat rfl) dX8_shift_95 hP hD hA hS rfl rfl [false, false, false, false, false, false, false, false, false, false, false, false, false, false, false, false, false, false, false, false, false, false, false, false, false, false, false, false, false, false, false, false, false, false, false, false, false, false, false, false, false, false, false, false, false, false, false, false, false, false, false, false, false, false, false, false, false, false, false, false, false, false, false, false, false, false, false, false, false, false, false, false, false, false, false, false, false, false, false, false, false, false, false, false, false, false, false, false, false, false, false, false, false, true, true, false, false, false, false] rfl rfl rfl rfl (fun H locs hP hD hS => ?_)
                              refine W.eq (g2 := F0 m 98 ls [.int (mm_b r_303)]) rfl ?_
                              refine lv_if_eq (tgt := 113) hx hb dX8_shift_98 (by decide) (fun c_305 => ?_) (fun c_305 => ?_)
                              · have hf := mm_ip hf (mm_b0 c_305)
                                refine lv_bipush (v := -13) hx hb dX8_shift_113 (by decide) ?_
                                apply mm_sub7 hf
                                exact mm_iret C0 hP hD hS dX8_shift_115
                              · have hf := mm_in hf (mm_b1 c_305)
                                refine lv_aload hx hb dX8_shift_101 (lv_at hl 0 rfl) ?_
                                refine lv_iload hx hb dX8_shift_103 (lv_at hl 6 rfl) ?_
                                refine lv_iload hx hb dX8_shift_105 (lv_at hl 7 rfl) ?_
                                obtain ⟨r_306, hc_307, hf⟩ := mm_bd1s hf
                                refine mm_callW (q0 := 89) (ci := 6) (w2 := (wd_X8 cI cL cS cH a v_hasImage v_now_rows v_now_cols v_now_high v_now_wide v_now_folds v_now_wrong v_now_more v_now_rowOf v_now_colOf v_now_below v_now_face v_now_worn v_now_last v_now_bend v_now_tall v_kept_rows v_kept_cols v_kept_high v_kept_wide v_kept_folds v_kept_wrong v_kept_more v_kept_rowOf v_kept_colOf v_kept_below v_kept_face v_kept_worn v_kept_last v_kept_bend v_kept_tall v_wearing_size v_wearing_stepCount v_wearing_draftCount v_wearing_place v_wearing_fault v_wearing_stacked v_wearing_tape v_wearing_steps v_wearing_draft v_wearing_stack v_planned_size v_planned_trial_rows v_planned_trial_cols v_planned_trial_high v_planned_trial_wide v_planned_trial_folds v_planned_trial_wrong v_planned_trial_more v_planned_trial_rowOf v_planned_trial_colOf v_planned_trial_below v_planned_trial_face v_planned_trial_worn v_planned_trial_last v_planned_trial_bend v_planned_trial_tall v_planned_lines v_planned_ways v_search_found v_search_wrong v_search_more v_search_folds v_search_wanted v_search_levels0_rows v_search_levels0_cols v_search_levels0_high v_search_levels0_wide v_search_levels0_folds v_search_levels0_wrong v_search_levels0_more v_search_levels0_rowOf v_search_levels0_colOf v_search_levels0_below v_search_levels0_face v_search_levels0_worn v_search_levels0_last v_search_levels0_bend v_search_levels0_tall v_search_levels1_rows v_search_levels1_cols v_search_levels1_high v_search_levels1_wide v_search_levels1_folds v_search_levels1_wrong v_search_levels1_more v_search_levels1_rowOf v_search_levels1_colOf v_search_levels1_below v_search_levels1_face v_search_levels1_worn v_search_levels1_last v_search_levels1_bend v_search_levels1_tall v_search_levels2_rows v_search_levels2_cols v_search_levels2_high v_search_levels2_wide v_search_levels2_folds v_search_levels2_wrong v_search_levels2_more v_search_levels2_rowOf v_search_levels2_colOf v_search_levels2_below v_search_levels2_face v_search_levels2_worn v_search_levels2_last v_search_levels2_bend v_search_levels2_tall v_search_levels3_rows v_search_levels3_cols v_search_levels3_high v_search_levels3_wide v_search_levels3_folds v_search_levels3_wrong v_search_levels3_more v_search_levels3_rowOf v_search_levels3_colOf v_search_levels3_below v_search_levels3_face v_search_levels3_worn v_search_levels3_last v_search_levels3_bend v_search_levels3_tall v_search_path v_search_best v_strip_list v_strip_found v_strip_at v_changes_value v_changes_done v_changes_size v_changes_before v_changes_after v_foldings_size v_foldings_ran v_foldings_number v_foldings_kinds v_foldings_trace v_shelves0_holds v_shelves0_body v_shelves0_sort v_shelves0_size v_shelves0_items v_shelves1_holds v_shelves1_body v_shelves1_sort v_shelves1_size v_shelves1_items v_shelves2_holds v_shelves2_body v_shelves2_sort v_shelves2_size v_shelves2_items v_shelves3_holds v_shelves3_body v_shelves3_sort v_shelves3_size v_shelves3_items v_shelves4_holds v_shelves4_body v_shelves4_sort v_shelves4_size v_shelves4_items v_shelves5_holds v_shelves5_body v_shelves5_sort v_shelves5_size v_shelves5_items)) (rest := []) C0 lk_X8_303 (ctX6_hasPart (a := (fun k => a (k + 89))) (d := d - 1) (by omega) hc_307) (by omega) rfl hl.1 rfl (mm_cat rfl) dX8_shift_107 hP hD hA hS rfl rfl [false, false, false, false, false, false, false, false, false, false, false, false, false, false, false, false, false, false, false, false, false, false, false, false, false, false, false, false, false, false, false, false, false, false, false, false, false, false, false, false, false, false, false, false, false, false, false, false, false, false, false, false, false, false, false, false, false, false, false, false, false, false, false, false, false, false, false, false, false, false, false, false, false, false, false, false, false, false, false, false, false, false, false, false, false, false, false, false, false, true, true, false, false, false, false, false, false, false, false] rfl rfl rfl rfl (fun H locs hP hD hS => ?_)
                                refine W.eq (g2 := F0 m 110 ls [.int (mm_b r_306)]) rfl ?_
                                refine lv_if_ne (tgt := 116) hx hb dX8_shift_110 (by decide) (fun c_308 => ?_) (fun c_308 => ?_)
                                · have hf := mm_in hf (mm_b1 c_308)
                                  refine lv_aload hx hb dX8_shift_116 (lv_at hl 1 rfl) ?_
                                  refine mm_get C0 hP iw_X6 93 rfl rfl 4 (by decide) fl_X8_299 rfl dX8_shift_118 ?_
                                  refine lv_iload_n hx hb dX8_shift_121 rfl (lv_at hl 4 rfl) ?_
                                  refine lv_aload hx hb dX8_shift_122 (lv_at hl 0 rfl) ?_
                                  refine mm_get C0 hP iw_X6 89 rfl rfl 4 (by decide) fl_X8_299 rfl dX8_shift_124 ?_
                                  refine lv_iload hx hb dX8_shift_127 (lv_at hl 6 rfl) ?_
                                  refine lv_iload hx hb dX8_shift_129 (lv_at hl 7 rfl) ?_
                                  obtain ⟨h_309, hf⟩ := mm_cks hf
                                  refine mm_copyl C0 la_X8_306 hP hD hS 94 90 rfl rfl h_309 hl.1 (by omega) (mm_cat rfl) dX8_shift_131 (w2 := (wd_X8 cI cL cS cH a v_hasImage v_now_rows v_now_cols v_now_high v_now_wide v_now_folds v_now_wrong v_now_more v_now_rowOf v_now_colOf v_now_below v_now_face v_now_worn v_now_last v_now_bend v_now_tall v_kept_rows v_kept_cols v_kept_high v_kept_wide v_kept_folds v_kept_wrong v_kept_more v_kept_rowOf v_kept_colOf v_kept_below v_kept_face v_kept_worn v_kept_last v_kept_bend v_kept_tall v_wearing_size v_wearing_stepCount v_wearing_draftCount v_wearing_place v_wearing_fault v_wearing_stacked v_wearing_tape v_wearing_steps v_wearing_draft v_wearing_stack v_planned_size v_planned_trial_rows v_planned_trial_cols v_planned_trial_high v_planned_trial_wide v_planned_trial_folds v_planned_trial_wrong v_planned_trial_more v_planned_trial_rowOf v_planned_trial_colOf v_planned_trial_below v_planned_trial_face v_planned_trial_worn v_planned_trial_last v_planned_trial_bend v_planned_trial_tall v_planned_lines v_planned_ways v_search_found v_search_wrong v_search_more v_search_folds v_search_wanted v_search_levels0_rows v_search_levels0_cols v_search_levels0_high v_search_levels0_wide v_search_levels0_folds v_search_levels0_wrong v_search_levels0_more v_search_levels0_rowOf v_search_levels0_colOf v_search_levels0_below v_search_levels0_face v_search_levels0_worn v_search_levels0_last v_search_levels0_bend v_search_levels0_tall v_search_levels1_rows v_search_levels1_cols v_search_levels1_high v_search_levels1_wide v_search_levels1_folds v_search_levels1_wrong v_search_levels1_more v_search_levels1_rowOf v_search_levels1_colOf v_search_levels1_below v_search_levels1_face v_search_levels1_worn v_search_levels1_last v_search_levels1_bend v_search_levels1_tall v_search_levels2_rows v_search_levels2_cols v_search_levels2_high v_search_levels2_wide v_search_levels2_folds v_search_levels2_wrong v_search_levels2_more v_search_levels2_rowOf v_search_levels2_colOf v_search_levels2_below v_search_levels2_face v_search_levels2_worn v_search_levels2_last v_search_levels2_bend v_search_levels2_tall v_search_levels3_rows v_search_levels3_cols v_search_levels3_high v_search_levels3_wide v_search_levels3_folds v_search_levels3_wrong v_search_levels3_more v_search_levels3_rowOf v_search_levels3_colOf v_search_levels3_below v_search_levels3_face v_search_levels3_worn v_search_levels3_last v_search_levels3_bend v_search_levels3_tall v_search_path v_search_best v_strip_list v_strip_found v_strip_at v_changes_value v_changes_done v_changes_size v_changes_before v_changes_after v_foldings_size v_foldings_ran v_foldings_number v_foldings_kinds v_foldings_trace v_shelves0_holds v_shelves0_body v_shelves0_sort v_shelves0_size v_shelves0_items v_shelves1_holds v_shelves1_body v_shelves1_sort v_shelves1_size (mm_cp v_shelves3_items v_shelves1_items x2 x4 x5) v_shelves2_holds v_shelves2_body v_shelves2_sort v_shelves2_size v_shelves2_items v_shelves3_holds v_shelves3_body v_shelves3_sort v_shelves3_size v_shelves3_items v_shelves4_holds v_shelves4_body v_shelves4_sort v_shelves4_size v_shelves4_items v_shelves5_holds v_shelves5_body v_shelves5_sort v_shelves5_size v_shelves5_items)) rfl (fun H locs hP hD hS => ?_)
                                  generalize el_310 : (mm_cp v_shelves3_items v_shelves1_items x2 x4 x5) = l_310 at hP hD
                                  have hf := mm_nms hf el_310.symm
                                  refine lv_iload hx hb dX8_shift_134 (lv_at hl 7 rfl) ?_
                                  apply mm_sub7 hf
                                  exact mm_iret C0 hP hD hS dX8_shift_136
                                · have hf := mm_ip hf (mm_b0 c_308)
                                  refine lv_bipush (v := -13) hx hb dX8_shift_113 (by decide) ?_
                                  apply mm_sub7 hf
                                  exact mm_iret C0 hP hD hS dX8_shift_115
                          · have hf := mm_in hf c_301
                            refine lv_bipush (v := -12) hx hb dX8_shift_82 (by decide) ?_
                            apply mm_sub7 hf
                            exact mm_iret C0 hP hD hS dX8_shift_84
                    · have hf := mm_ip hf c_298
                      refine lv_bipush (v := -11) hx hb dX8_shift_48 (by decide) ?_
                      apply mm_sub7 hf
                      exact mm_iret C0 hP hD hS dX8_shift_50
                · have hf := mm_in hf c_296
                  by_cases c_311 : x3 = (2 : Int32)
                  · have hf := mm_ip hf c_311
                    refine mm_aald 3 rfl C0 hP 86 rfl (b := a 91) (by rw [c_311]; rfl) (by rw [c_311]; rfl) dX8_shift_29 ?_
                    refine lv_astore (lv' := [(7, .ref (a 91)), (6, .ref (a 93)), (0, .ref (a 0)), (1, .int x1), (2, .int x2), (3, .int x3), (4, .int x4), (5, .int x5)]) hx hb dX8_shift_30 hl (by decide) rfl (fun ls hl => ?_)
                    refine lv_aload hx hb dX8_shift_32 (lv_at hl 1 rfl) ?_
                    refine mm_get C0 hP iw_X6 93 rfl rfl 0 (by decide) fl_X8_168 rfl dX8_shift_34 ?_
                    refine lv_if_eq (tgt := 48) hx hb dX8_shift_37 (by decide) (fun c_312 => ?_) (fun c_312 => ?_)
                    · have hf := mm_ip hf c_312
                      refine lv_bipush (v := -11) hx hb dX8_shift_48 (by decide) ?_
                      apply mm_sub7 hf
                      exact mm_iret C0 hP hD hS dX8_shift_50
                    · have hf := mm_in hf c_312
                      refine lv_aload hx hb dX8_shift_40 (lv_at hl 0 rfl) ?_
                      refine mm_get C0 hP iw_X6 91 rfl rfl 0 (by decide) fl_X8_168 rfl dX8_shift_42 ?_
                      refine lv_if_ne (tgt := 51) hx hb dX8_shift_45 (by decide) (fun c_313 => ?_) (fun c_313 => ?_)
                      · have hf := mm_in hf c_313
                        refine lv_aload hx hb dX8_shift_51 (lv_at hl 1 rfl) ?_
                        refine mm_get C0 hP iw_X6 93 rfl rfl 0 (by decide) fl_X8_168 rfl dX8_shift_53 ?_
                        refine lv_iconst (v := 2) hx hb dX8_shift_56 (by decide) ?_
                        refine lv_icmp_ne (tgt := 82) hx hb dX8_shift_57 (by decide) (fun c_314 => ?_) (fun c_314 => ?_)
                        · have hf := mm_in hf c_314
                          refine lv_bipush (v := -12) hx hb dX8_shift_82 (by decide) ?_
                          apply mm_sub7 hf
                          exact mm_iret C0 hP hD hS dX8_shift_84
                        · have hf := mm_ip hf c_314
                          refine lv_aload hx hb dX8_shift_60 (lv_at hl 0 rfl) ?_
                          refine mm_get C0 hP iw_X6 91 rfl rfl 0 (by decide) fl_X8_168 rfl dX8_shift_62 ?_
                          refine lv_iconst (v := 2) hx hb dX8_shift_65 (by decide) ?_
                          refine lv_icmp_ne (tgt := 82) hx hb dX8_shift_66 (by decide) (fun c_315 => ?_) (fun c_315 => ?_)
                          · have hf := mm_in hf c_315
                            refine lv_bipush (v := -12) hx hb dX8_shift_82 (by decide) ?_
                            apply mm_sub7 hf
                            exact mm_iret C0 hP hD hS dX8_shift_84
                          · have hf := mm_ip hf c_315
                            refine lv_aload hx hb dX8_shift_69 (lv_at hl 1 rfl) ?_
                            refine mm_get C0 hP iw_X6 93 rfl rfl 2 (by decide) fl_X8_171 rfl dX8_shift_71 ?_
                            refine lv_aload hx hb dX8_shift_74 (lv_at hl 0 rfl) ?_
                            refine mm_get C0 hP iw_X6 91 rfl rfl 2 (by decide) fl_X8_171 rfl dX8_shift_76 ?_
                            refine lv_icmp_eq (tgt := 85) hx hb dX8_shift_79 (by decide) (fun c_316 => ?_) (fun c_316 => ?_)
                            · have hf := mm_ip hf c_316
                              refine lv_iload hx hb dX8_shift_85 (lv_at hl 7 rfl) ?_
                              refine lv_if_lt (tgt := 113) hx hb dX8_shift_87 (by decide) (fun c_317 => ?_) (fun c_317 => ?_)
                              · have hf := mm_ip hf c_317
                                refine lv_bipush (v := -13) hx hb dX8_shift_113 (by decide) ?_
                                apply mm_sub7 hf
                                exact mm_iret C0 hP hD hS dX8_shift_115
                              · have hf := mm_in hf c_317
                                refine lv_aload hx hb dX8_shift_90 (lv_at hl 1 rfl) ?_
                                refine lv_iload_n hx hb dX8_shift_92 rfl (lv_at hl 4 rfl) ?_
                                refine lv_iload hx hb dX8_shift_93 (lv_at hl 7 rfl) ?_
                                obtain ⟨r_318, hc_319, hf⟩ := mm_bd1s hf
                                refine mm_callW (q0 := 93) (ci := 6) (w2 := (wd_X8 cI cL cS cH a v_hasImage v_now_rows v_now_cols v_now_high v_now_wide v_now_folds v_now_wrong v_now_more v_now_rowOf v_now_colOf v_now_below v_now_face v_now_worn v_now_last v_now_bend v_now_tall v_kept_rows v_kept_cols v_kept_high v_kept_wide v_kept_folds v_kept_wrong v_kept_more v_kept_rowOf v_kept_colOf v_kept_below v_kept_face v_kept_worn v_kept_last v_kept_bend v_kept_tall v_wearing_size v_wearing_stepCount v_wearing_draftCount v_wearing_place v_wearing_fault v_wearing_stacked v_wearing_tape v_wearing_steps v_wearing_draft v_wearing_stack v_planned_size v_planned_trial_rows v_planned_trial_cols v_planned_trial_high v_planned_trial_wide v_planned_trial_folds v_planned_trial_wrong v_planned_trial_more v_planned_trial_rowOf v_planned_trial_colOf v_planned_trial_below v_planned_trial_face v_planned_trial_worn v_planned_trial_last v_planned_trial_bend v_planned_trial_tall v_planned_lines v_planned_ways v_search_found v_search_wrong v_search_more v_search_folds v_search_wanted v_search_levels0_rows v_search_levels0_cols v_search_levels0_high v_search_levels0_wide v_search_levels0_folds v_search_levels0_wrong v_search_levels0_more v_search_levels0_rowOf v_search_levels0_colOf v_search_levels0_below v_search_levels0_face v_search_levels0_worn v_search_levels0_last v_search_levels0_bend v_search_levels0_tall v_search_levels1_rows v_search_levels1_cols v_search_levels1_high v_search_levels1_wide v_search_levels1_folds v_search_levels1_wrong v_search_levels1_more v_search_levels1_rowOf v_search_levels1_colOf v_search_levels1_below v_search_levels1_face v_search_levels1_worn v_search_levels1_last v_search_levels1_bend v_search_levels1_tall v_search_levels2_rows v_search_levels2_cols v_search_levels2_high v_search_levels2_wide v_search_levels2_folds v_search_levels2_wrong v_search_levels2_more v_search_levels2_rowOf v_search_levels2_colOf v_search_levels2_below v_search_levels2_face v_search_levels2_worn v_search_levels2_last v_search_levels2_bend v_search_levels2_tall v_search_levels3_rows v_search_levels3_cols v_search_levels3_high v_search_levels3_wide v_search_levels3_folds v_search_levels3_wrong v_search_levels3_more v_search_levels3_rowOf v_search_levels3_colOf v_search_levels3_below v_search_levels3_face v_search_levels3_worn v_search_levels3_last v_search_levels3_bend v_search_levels3_tall v_search_path v_search_best v_strip_list v_strip_found v_strip_at v_changes_value v_changes_done v_changes_size v_changes_before v_changes_after v_foldings_size v_foldings_ran v_foldings_number v_foldings_kinds v_foldings_trace v_shelves0_holds v_shelves0_body v_shelves0_sort v_shelves0_size v_shelves0_items v_shelves1_holds v_shelves1_body v_shelves1_sort v_shelves1_size v_shelves1_items v_shelves2_holds v_shelves2_body v_shelves2_sort v_shelves2_size v_shelves2_items v_shelves3_holds v_shelves3_body v_shelves3_sort v_shelves3_size v_shelves3_items v_shelves4_holds v_shelves4_body v_shelves4_sort v_shelves4_size v_shelves4_items v_shelves5_holds v_shelves5_body v_shelves5_sort v_shelves5_size v_shelves5_items)) (rest := []) C0 lk_X8_303 (ctX6_hasPart (a := (fun k => a (k + 93))) (d := d - 1) (by omega) hc_319) (by omega) rfl hl.1 rfl (mm_cat rfl) dX8_shift_95 hP hD hA hS rfl rfl [false, false, false, false, false, false, false, false, false, false, false, false, false, false, false, false, false, false, false, false, false, false, false, false, false, false, false, false, false, false, false, false, false, false, false, false, false, false, false, false, false, false, false, false, false, false, false, false, false, false, false, false, false, false, false, false, false, false, false, false, false, false, false, false, false, false, false, false, false, false, false, false, false, false, false, false, false, false, false, false, false, false, false, false, false, false, false, false, false, false, false, false, false, true, true, false, false, false, false] rfl rfl rfl rfl (fun H locs hP hD hS => ?_)
                                refine W.eq (g2 := F0 m 98 ls [.int (mm_b r_318)]) rfl ?_
                                refine lv_if_eq (tgt := 113) hx hb dX8_shift_98 (by decide) (fun c_320 => ?_) (fun c_320 => ?_)
                                · have hf := mm_ip hf (mm_b0 c_320)
                                  refine lv_bipush (v := -13) hx hb dX8_shift_113 (by decide) ?_
                                  apply mm_sub7 hf
                                  exact mm_iret C0 hP hD hS dX8_shift_115
                                · have hf := mm_in hf (mm_b1 c_320)
                                  refine lv_aload hx hb dX8_shift_101 (lv_at hl 0 rfl) ?_
                                  refine lv_iload hx hb dX8_shift_103 (lv_at hl 6 rfl) ?_
                                  refine lv_iload hx hb dX8_shift_105 (lv_at hl 7 rfl) ?_
                                  obtain ⟨r_321, hc_322, hf⟩ := mm_bd1s hf
                                  refine mm_callW (q0 := 91) (ci := 6) (w2 := (wd_X8 cI cL cS cH a v_hasImage v_now_rows v_now_cols v_now_high v_now_wide v_now_folds v_now_wrong v_now_more v_now_rowOf v_now_colOf v_now_below v_now_face v_now_worn v_now_last v_now_bend v_now_tall v_kept_rows v_kept_cols v_kept_high v_kept_wide v_kept_folds v_kept_wrong v_kept_more v_kept_rowOf v_kept_colOf v_kept_below v_kept_face v_kept_worn v_kept_last v_kept_bend v_kept_tall v_wearing_size v_wearing_stepCount v_wearing_draftCount v_wearing_place v_wearing_fault v_wearing_stacked v_wearing_tape v_wearing_steps v_wearing_draft v_wearing_stack v_planned_size v_planned_trial_rows v_planned_trial_cols v_planned_trial_high v_planned_trial_wide v_planned_trial_folds v_planned_trial_wrong v_planned_trial_more v_planned_trial_rowOf v_planned_trial_colOf v_planned_trial_below v_planned_trial_face v_planned_trial_worn v_planned_trial_last v_planned_trial_bend v_planned_trial_tall v_planned_lines v_planned_ways v_search_found v_search_wrong v_search_more v_search_folds v_search_wanted v_search_levels0_rows v_search_levels0_cols v_search_levels0_high v_search_levels0_wide v_search_levels0_folds v_search_levels0_wrong v_search_levels0_more v_search_levels0_rowOf v_search_levels0_colOf v_search_levels0_below v_search_levels0_face v_search_levels0_worn v_search_levels0_last v_search_levels0_bend v_search_levels0_tall v_search_levels1_rows v_search_levels1_cols v_search_levels1_high v_search_levels1_wide v_search_levels1_folds v_search_levels1_wrong v_search_levels1_more v_search_levels1_rowOf v_search_levels1_colOf v_search_levels1_below v_search_levels1_face v_search_levels1_worn v_search_levels1_last v_search_levels1_bend v_search_levels1_tall v_search_levels2_rows v_search_levels2_cols v_search_levels2_high v_search_levels2_wide v_search_levels2_folds v_search_levels2_wrong v_search_levels2_more v_search_levels2_rowOf v_search_levels2_colOf v_search_levels2_below v_search_levels2_face v_search_levels2_worn v_search_levels2_last v_search_levels2_bend v_search_levels2_tall v_search_levels3_rows v_search_levels3_cols v_search_levels3_high v_search_levels3_wide v_search_levels3_folds v_search_levels3_wrong v_search_levels3_more v_search_levels3_rowOf v_search_levels3_colOf v_search_levels3_below v_search_levels3_face v_search_levels3_worn v_search_levels3_last v_search_levels3_bend v_search_levels3_tall v_search_path v_search_best v_strip_list v_strip_found v_strip_at v_changes_value v_changes_done v_changes_size v_changes_before v_changes_after v_foldings_size v_foldings_ran v_foldings_number v_foldings_kinds v_foldings_trace v_shelves0_holds v_shelves0_body v_shelves0_sort v_shelves0_size v_shelves0_items v_shelves1_holds v_shelves1_body v_shelves1_sort v_shelves1_size v_shelves1_items v_shelves2_holds v_shelves2_body v_shelves2_sort v_shelves2_size v_shelves2_items v_shelves3_holds v_shelves3_body v_shelves3_sort v_shelves3_size v_shelves3_items v_shelves4_holds v_shelves4_body v_shelves4_sort v_shelves4_size v_shelves4_items v_shelves5_holds v_shelves5_body v_shelves5_sort v_shelves5_size v_shelves5_items)) (rest := []) C0 lk_X8_303 (ctX6_hasPart (a := (fun k => a (k + 91))) (d := d - 1) (by omega) hc_322) (by omega) rfl hl.1 rfl (mm_cat rfl) dX8_shift_107 hP hD hA hS rfl rfl [false, false, false, false, false, false, false, false, false, false, false, false, false, false, false, false, false, false, false, false, false, false, false, false, false, false, false, false, false, false, false, false, false, false, false, false, false, false, false, false, false, false, false, false, false, false, false, false, false, false, false, false, false, false, false, false, false, false, false, false, false, false, false, false, false, false, false, false, false, false, false, false, false, false, false, false, false, false, false, false, false, false, false, false, false, false, false, false, false, false, false, true, true, false, false, false, false, false, false] rfl rfl rfl rfl (fun H locs hP hD hS => ?_)
                                  refine W.eq (g2 := F0 m 110 ls [.int (mm_b r_321)]) rfl ?_
                                  refine lv_if_ne (tgt := 116) hx hb dX8_shift_110 (by decide) (fun c_323 => ?_) (fun c_323 => ?_)
                                  · have hf := mm_in hf (mm_b1 c_323)
                                    refine lv_aload hx hb dX8_shift_116 (lv_at hl 1 rfl) ?_
                                    refine mm_get C0 hP iw_X6 93 rfl rfl 4 (by decide) fl_X8_299 rfl dX8_shift_118 ?_
                                    refine lv_iload_n hx hb dX8_shift_121 rfl (lv_at hl 4 rfl) ?_
                                    refine lv_aload hx hb dX8_shift_122 (lv_at hl 0 rfl) ?_
                                    refine mm_get C0 hP iw_X6 91 rfl rfl 4 (by decide) fl_X8_299 rfl dX8_shift_124 ?_
                                    refine lv_iload hx hb dX8_shift_127 (lv_at hl 6 rfl) ?_
                                    refine lv_iload hx hb dX8_shift_129 (lv_at hl 7 rfl) ?_
                                    obtain ⟨h_324, hf⟩ := mm_cks hf
                                    refine mm_copyl C0 la_X8_306 hP hD hS 94 92 rfl rfl h_324 hl.1 (by omega) (mm_cat rfl) dX8_shift_131 (w2 := (wd_X8 cI cL cS cH a v_hasImage v_now_rows v_now_cols v_now_high v_now_wide v_now_folds v_now_wrong v_now_more v_now_rowOf v_now_colOf v_now_below v_now_face v_now_worn v_now_last v_now_bend v_now_tall v_kept_rows v_kept_cols v_kept_high v_kept_wide v_kept_folds v_kept_wrong v_kept_more v_kept_rowOf v_kept_colOf v_kept_below v_kept_face v_kept_worn v_kept_last v_kept_bend v_kept_tall v_wearing_size v_wearing_stepCount v_wearing_draftCount v_wearing_place v_wearing_fault v_wearing_stacked v_wearing_tape v_wearing_steps v_wearing_draft v_wearing_stack v_planned_size v_planned_trial_rows v_planned_trial_cols v_planned_trial_high v_planned_trial_wide v_planned_trial_folds v_planned_trial_wrong v_planned_trial_more v_planned_trial_rowOf v_planned_trial_colOf v_planned_trial_below v_planned_trial_face v_planned_trial_worn v_planned_trial_last v_planned_trial_bend v_planned_trial_tall v_planned_lines v_planned_ways v_search_found v_search_wrong v_search_more v_search_folds v_search_wanted v_search_levels0_rows v_search_levels0_cols v_search_levels0_high v_search_levels0_wide v_search_levels0_folds v_search_levels0_wrong v_search_levels0_more v_search_levels0_rowOf v_search_levels0_colOf v_search_levels0_below v_search_levels0_face v_search_levels0_worn v_search_levels0_last v_search_levels0_bend v_search_levels0_tall v_search_levels1_rows v_search_levels1_cols v_search_levels1_high v_search_levels1_wide v_search_levels1_folds v_search_levels1_wrong v_search_levels1_more v_search_levels1_rowOf v_search_levels1_colOf v_search_levels1_below v_search_levels1_face v_search_levels1_worn v_search_levels1_last v_search_levels1_bend v_search_levels1_tall v_search_levels2_rows v_search_levels2_cols v_search_levels2_high v_search_levels2_wide v_search_levels2_folds v_search_levels2_wrong v_search_levels2_more v_search_levels2_rowOf v_search_levels2_colOf v_search_levels2_below v_search_levels2_face v_search_levels2_worn v_search_levels2_last v_search_levels2_bend v_search_levels2_tall v_search_levels3_rows v_search_levels3_cols v_search_levels3_high v_search_levels3_wide v_search_levels3_folds v_search_levels3_wrong v_search_levels3_more v_search_levels3_rowOf v_search_levels3_colOf v_search_levels3_below v_search_levels3_face v_search_levels3_worn v_search_levels3_last v_search_levels3_bend v_search_levels3_tall v_search_path v_search_best v_strip_list v_strip_found v_strip_at v_changes_value v_changes_done v_changes_size v_changes_before v_changes_after v_foldings_size v_foldings_ran v_foldings_number v_foldings_kinds v_foldings_trace v_shelves0_holds v_shelves0_body v_shelves0_sort v_shelves0_size v_shelves0_items v_shelves1_holds v_shelves1_body v_shelves1_sort v_shelves1_size v_shelves1_items v_shelves2_holds v_shelves2_body v_shelves2_sort v_shelves2_size (mm_cp v_shelves3_items v_shelves2_items x2 x4 x5) v_shelves3_holds v_shelves3_body v_shelves3_sort v_shelves3_size v_shelves3_items v_shelves4_holds v_shelves4_body v_shelves4_sort v_shelves4_size v_shelves4_items v_shelves5_holds v_shelves5_body v_shelves5_sort v_shelves5_size v_shelves5_items)) rfl (fun H locs hP hD hS => ?_)
                                    generalize el_325 : (mm_cp v_shelves3_items v_shelves2_items x2 x4 x5) = l_325 at hP hD
                                    have hf := mm_nms hf el_325.symm
                                    refine lv_iload hx hb dX8_shift_134 (lv_at hl 7 rfl) ?_
                                    apply mm_sub7 hf
                                    exact mm_iret C0 hP hD hS dX8_shift_136
                                  · have hf := mm_ip hf (mm_b0 c_323)
                                    refine lv_bipush (v := -13) hx hb dX8_shift_113 (by decide) ?_
                                    apply mm_sub7 hf
                                    exact mm_iret C0 hP hD hS dX8_shift_115
                            · have hf := mm_in hf c_316
                              refine lv_bipush (v := -12) hx hb dX8_shift_82 (by decide) ?_
                              apply mm_sub7 hf
                              exact mm_iret C0 hP hD hS dX8_shift_84
                      · have hf := mm_ip hf c_313
                        refine lv_bipush (v := -11) hx hb dX8_shift_48 (by decide) ?_
                        apply mm_sub7 hf
                        exact mm_iret C0 hP hD hS dX8_shift_50
                  · have hf := mm_in hf c_311
                    by_cases c_326 : x3 = (3 : Int32)
                    · have hf := mm_ip hf c_326
                      refine mm_aald 3 rfl C0 hP 86 rfl (b := a 93) (by rw [c_326]; rfl) (by rw [c_326]; rfl) dX8_shift_29 ?_
                      refine lv_astore (lv' := [(7, .ref (a 93)), (6, .ref (a 93)), (0, .ref (a 0)), (1, .int x1), (2, .int x2), (3, .int x3), (4, .int x4), (5, .int x5)]) hx hb dX8_shift_30 hl (by decide) rfl (fun ls hl => ?_)
                      refine lv_aload hx hb dX8_shift_32 (lv_at hl 1 rfl) ?_
                      refine mm_get C0 hP iw_X6 93 rfl rfl 0 (by decide) fl_X8_168 rfl dX8_shift_34 ?_
                      refine lv_if_eq (tgt := 48) hx hb dX8_shift_37 (by decide) (fun c_327 => ?_) (fun c_327 => ?_)
                      · have hf := mm_ip hf c_327
                        refine lv_bipush (v := -11) hx hb dX8_shift_48 (by decide) ?_
                        apply mm_sub7 hf
                        exact mm_iret C0 hP hD hS dX8_shift_50
                      · have hf := mm_in hf c_327
                        refine lv_aload hx hb dX8_shift_40 (lv_at hl 0 rfl) ?_
                        refine mm_get C0 hP iw_X6 93 rfl rfl 0 (by decide) fl_X8_168 rfl dX8_shift_42 ?_
                        refine lv_if_ne (tgt := 51) hx hb dX8_shift_45 (by decide) (fun c_328 => ?_) (fun c_328 => ?_)
                        · have hf := mm_in hf c_328
                          refine lv_aload hx hb dX8_shift_51 (lv_at hl 1 rfl) ?_
                          refine mm_get C0 hP iw_X6 93 rfl rfl 0 (by decide) fl_X8_168 rfl dX8_shift_53 ?_
                          refine lv_iconst (v := 2) hx hb dX8_shift_56 (by decide) ?_
                          refine lv_icmp_ne (tgt := 82) hx hb dX8_shift_57 (by decide) (fun c_329 => ?_) (fun c_329 => ?_)
                          · have hf := mm_in hf c_329
                            refine lv_bipush (v := -12) hx hb dX8_shift_82 (by decide) ?_
                            apply mm_sub7 hf
                            exact mm_iret C0 hP hD hS dX8_shift_84
                          · have hf := mm_ip hf c_329
                            refine lv_aload hx hb dX8_shift_60 (lv_at hl 0 rfl) ?_
                            refine mm_get C0 hP iw_X6 93 rfl rfl 0 (by decide) fl_X8_168 rfl dX8_shift_62 ?_
                            refine lv_iconst (v := 2) hx hb dX8_shift_65 (by decide) ?_
                            refine lv_icmp_ne (tgt := 82) hx hb dX8_shift_66 (by decide) (fun c_330 => ?_) (fun c_330 => ?_)
                            · have hf := mm_in hf c_330
                              refine lv_bipush (v := -12) hx hb dX8_shift_82 (by decide) ?_
                              apply mm_sub7 hf
                              exact mm_iret C0 hP hD hS dX8_shift_84
                            · have hf := mm_ip hf c_330
                              refine lv_aload hx hb dX8_shift_69 (lv_at hl 1 rfl) ?_
                              refine mm_get C0 hP iw_X6 93 rfl rfl 2 (by decide) fl_X8_171 rfl dX8_shift_71 ?_
                              refine lv_aload hx hb dX8_shift_74 (lv_at hl 0 rfl) ?_
                              refine mm_get C0 hP iw_X6 93 rfl rfl 2 (by decide) fl_X8_171 rfl dX8_shift_76 ?_
                              refine lv_icmp_eq (tgt := 85) hx hb dX8_shift_79 (by decide) (fun c_331 => ?_) (fun c_331 => ?_)
                              · have hf := mm_ip hf c_331
                                refine lv_iload hx hb dX8_shift_85 (lv_at hl 7 rfl) ?_
                                refine lv_if_lt (tgt := 113) hx hb dX8_shift_87 (by decide) (fun c_332 => ?_) (fun c_332 => ?_)
                                · have hf := mm_ip hf c_332
                                  refine lv_bipush (v := -13) hx hb dX8_shift_113 (by decide) ?_
                                  apply mm_sub7 hf
                                  exact mm_iret C0 hP hD hS dX8_shift_115
                                · have hf := mm_in hf c_332
                                  refine lv_aload hx hb dX8_shift_90 (lv_at hl 1 rfl) ?_
                                  refine lv_iload_n hx hb dX8_shift_92 rfl (lv_at hl 4 rfl) ?_
                                  refine lv_iload hx hb dX8_shift_93 (lv_at hl 7 rfl) ?_
                                  obtain ⟨r_333, hc_334, hf⟩ := mm_bd1s hf
                                  refine mm_callW (q0 := 93) (ci := 6) (w2 := (wd_X8 cI cL cS cH a v_hasImage v_now_rows v_now_cols v_now_high v_now_wide v_now_folds v_now_wrong v_now_more v_now_rowOf v_now_colOf v_now_below v_now_face v_now_worn v_now_last v_now_bend v_now_tall v_kept_rows v_kept_cols v_kept_high v_kept_wide v_kept_folds v_kept_wrong v_kept_more v_kept_rowOf v_kept_colOf v_kept_below v_kept_face v_kept_worn v_kept_last v_kept_bend v_kept_tall v_wearing_size v_wearing_stepCount v_wearing_draftCount v_wearing_place v_wearing_fault v_wearing_stacked v_wearing_tape v_wearing_steps v_wearing_draft v_wearing_stack v_planned_size v_planned_trial_rows v_planned_trial_cols v_planned_trial_high v_planned_trial_wide v_planned_trial_folds v_planned_trial_wrong v_planned_trial_more v_planned_trial_rowOf v_planned_trial_colOf v_planned_trial_below v_planned_trial_face v_planned_trial_worn v_planned_trial_last v_planned_trial_bend v_planned_trial_tall v_planned_lines v_planned_ways v_search_found v_search_wrong v_search_more v_search_folds v_search_wanted v_search_levels0_rows v_search_levels0_cols v_search_levels0_high v_search_levels0_wide v_search_levels0_folds v_search_levels0_wrong v_search_levels0_more v_search_levels0_rowOf v_search_levels0_colOf v_search_levels0_below v_search_levels0_face v_search_levels0_worn v_search_levels0_last v_search_levels0_bend v_search_levels0_tall v_search_levels1_rows v_search_levels1_cols v_search_levels1_high v_search_levels1_wide v_search_levels1_folds v_search_levels1_wrong v_search_levels1_more v_search_levels1_rowOf v_search_levels1_colOf v_search_levels1_below v_search_levels1_face v_search_levels1_worn v_search_levels1_last v_search_levels1_bend v_search_levels1_tall v_search_levels2_rows v_search_levels2_cols v_search_levels2_high v_search_levels2_wide v_search_levels2_folds v_search_levels2_wrong v_search_levels2_more v_search_levels2_rowOf v_search_levels2_colOf v_search_levels2_below v_search_levels2_face v_search_levels2_worn v_search_levels2_last v_search_levels2_bend v_search_levels2_tall v_search_levels3_rows v_search_levels3_cols v_search_levels3_high v_search_levels3_wide v_search_levels3_folds v_search_levels3_wrong v_search_levels3_more v_search_levels3_rowOf v_search_levels3_colOf v_search_levels3_below v_search_levels3_face v_search_levels3_worn v_search_levels3_last v_search_levels3_bend v_search_levels3_tall v_search_path v_search_best v_strip_list v_strip_found v_strip_at v_changes_value v_changes_done v_changes_size v_changes_before v_changes_after v_foldings_size v_foldings_ran v_foldings_number v_foldings_kinds v_foldings_trace v_shelves0_holds v_shelves0_body v_shelves0_sort v_shelves0_size v_shelves0_items v_shelves1_holds v_shelves1_body v_shelves1_sort v_shelves1_size v_shelves1_items v_shelves2_holds v_shelves2_body v_shelves2_sort v_shelves2_size v_shelves2_items v_shelves3_holds v_shelves3_body v_shelves3_sort v_shelves3_size v_shelves3_items v_shelves4_holds v_shelves4_body v_shelves4_sort v_shelves4_size v_shelves4_items v_shelves5_holds v_shelves5_body v_shelves5_sort v_shelves5_size v_shelves5_items)) (rest := []) C0 lk_X8_303 (ctX6_hasPart (a := (fun k => a (k + 93))) (d := d - 1) (by omega) hc_334) (by omega) rfl hl.1 rfl (mm_cat rfl) dX8_shift_95 hP hD hA hS rfl rfl [false, false, false, false, false, false, false, false, false, false, false, false, false, false, false, false, false, false, false, false, false, false, false, false, false, false, false, false, false, false, false, false, false, false, false, false, false, false, false, false, false, false, false, false, false, false, false, false, false, false, false, false, false, false, false, false, false, false, false, false, false, false, false, false, false, false, false, false, false, false, false, false, false, false, false, false, false, false, false, false, false, false, false, false, false, false, false, false, false, false, false, false, false, true, true, false, false, false, false] rfl rfl rfl rfl (fun H locs hP hD hS => ?_)
                                  refine W.eq (g2 := F0 m 98 ls [.int (mm_b r_333)]) rfl ?_
                                  refine lv_if_eq (tgt := 113) hx hb dX8_shift_98 (by decide) (fun c_335 => ?_) (fun c_335 => ?_)
                                  · have hf := mm_ip hf (mm_b0 c_335)
                                    refine lv_bipush (v := -13) hx hb dX8_shift_113 (by decide) ?_
                                    apply mm_sub7 hf
                                    exact mm_iret C0 hP hD hS dX8_shift_115
                                  · have hf := mm_in hf (mm_b1 c_335)
                                    refine lv_aload hx hb dX8_shift_101 (lv_at hl 0 rfl) ?_
                                    refine lv_iload hx hb dX8_shift_103 (lv_at hl 6 rfl) ?_
                                    refine lv_iload hx hb dX8_shift_105 (lv_at hl 7 rfl) ?_
                                    obtain ⟨r_336, hc_337, hf⟩ := mm_bd1s hf
                                    refine mm_callW (q0 := 93) (ci := 6) (w2 := (wd_X8 cI cL cS cH a v_hasImage v_now_rows v_now_cols v_now_high v_now_wide v_now_folds v_now_wrong v_now_more v_now_rowOf v_now_colOf v_now_below v_now_face v_now_worn v_now_last v_now_bend v_now_tall v_kept_rows v_kept_cols v_kept_high v_kept_wide v_kept_folds v_kept_wrong v_kept_more v_kept_rowOf v_kept_colOf v_kept_below v_kept_face v_kept_worn v_kept_last v_kept_bend v_kept_tall v_wearing_size v_wearing_stepCount v_wearing_draftCount v_wearing_place v_wearing_fault v_wearing_stacked v_wearing_tape v_wearing_steps v_wearing_draft v_wearing_stack v_planned_size v_planned_trial_rows v_planned_trial_cols v_planned_trial_high v_planned_trial_wide v_planned_trial_folds v_planned_trial_wrong v_planned_trial_more v_planned_trial_rowOf v_planned_trial_colOf v_planned_trial_below v_planned_trial_face v_planned_trial_worn v_planned_trial_last v_planned_trial_bend v_planned_trial_tall v_planned_lines v_planned_ways v_search_found v_search_wrong v_search_more v_search_folds v_search_wanted v_search_levels0_rows v_search_levels0_cols v_search_levels0_high v_search_levels0_wide v_search_levels0_folds v_search_levels0_wrong v_search_levels0_more v_search_levels0_rowOf v_search_levels0_colOf v_search_levels0_below v_search_levels0_face v_search_levels0_worn v_search_levels0_last v_search_levels0_bend v_search_levels0_tall v_search_levels1_rows v_search_levels1_cols v_search_levels1_high v_search_levels1_wide v_search_levels1_folds v_search_levels1_wrong v_search_levels1_more v_search_levels1_rowOf v_search_levels1_colOf v_search_levels1_below v_search_levels1_face v_search_levels1_worn v_search_levels1_last v_search_levels1_bend v_search_levels1_tall v_search_levels2_rows v_search_levels2_cols v_search_levels2_high v_search_levels2_wide v_search_levels2_folds v_search_levels2_wrong v_search_levels2_more v_search_levels2_rowOf v_search_levels2_colOf v_search_levels2_below v_search_levels2_face v_search_levels2_worn v_search_levels2_last v_search_levels2_bend v_search_levels2_tall v_search_levels3_rows v_search_levels3_cols v_search_levels3_high v_search_levels3_wide v_search_levels3_folds v_search_levels3_wrong v_search_levels3_more v_search_levels3_rowOf v_search_levels3_colOf v_search_levels3_below v_search_levels3_face v_search_levels3_worn v_search_levels3_last v_search_levels3_bend v_search_levels3_tall v_search_path v_search_best v_strip_list v_strip_found v_strip_at v_changes_value v_changes_done v_changes_size v_changes_before v_changes_after v_foldings_size v_foldings_ran v_foldings_number v_foldings_kinds v_foldings_trace v_shelves0_holds v_shelves0_body v_shelves0_sort v_shelves0_size v_shelves0_items v_shelves1_holds v_shelves1_body v_shelves1_sort v_shelves1_size v_shelves1_items v_shelves2_holds v_shelves2_body v_shelves2_sort v_shelves2_size v_shelves2_items v_shelves3_holds v_shelves3_body v_shelves3_sort v_shelves3_size v_shelves3_items v_shelves4_holds v_shelves4_body v_shelves4_sort v_shelves4_size v_shelves4_items v_shelves5_holds v_shelves5_body v_shelves5_sort v_shelves5_size v_shelves5_items)) (rest := []) C0 lk_X8_303 (ctX6_hasPart (a := (fun k => a (k + 93))) (d := d - 1) (by omega) hc_337) (by omega) rfl hl.1 rfl (mm_cat rfl) dX8_shift_107 hP hD hA hS rfl rfl [false, false, false, false, false, false, false, false, false, false, false, false, false, false, false, false, false, false, false, false, false, false, false, false, false, false, false, false, false, false, false, false, false, false, false, false, false, false, false, false, false, false, false, false, false, false, false, false, false, false, false, false, false, false, false, false, false, false, false, false, false, false, false, false, false, false, false, false, false, false, false, false, false, false, false, false, false, false, false, false, false, false, false, false, false, false, false, false, false, false, false, false, false, true, true, false, false, false, false] rfl rfl rfl rfl (fun H locs hP hD hS => ?_)
                                    refine W.eq (g2 := F0 m 110 ls [.int (mm_b r_336)]) rfl ?_
                                    refine lv_if_ne (tgt := 116) hx hb dX8_shift_110 (by decide) (fun c_338 => ?_) (fun c_338 => ?_)
                                    · have hf := mm_in hf (mm_b1 c_338)
                                      refine lv_aload hx hb dX8_shift_116 (lv_at hl 1 rfl) ?_
                                      refine mm_get C0 hP iw_X6 93 rfl rfl 4 (by decide) fl_X8_299 rfl dX8_shift_118 ?_
                                      refine lv_iload_n hx hb dX8_shift_121 rfl (lv_at hl 4 rfl) ?_
                                      refine lv_aload hx hb dX8_shift_122 (lv_at hl 0 rfl) ?_
                                      refine mm_get C0 hP iw_X6 93 rfl rfl 4 (by decide) fl_X8_299 rfl dX8_shift_124 ?_
                                      refine lv_iload hx hb dX8_shift_127 (lv_at hl 6 rfl) ?_
                                      refine lv_iload hx hb dX8_shift_129 (lv_at hl 7 rfl) ?_
                                      obtain ⟨h_339, hf⟩ := mm_cks hf
                                      refine mm_copyl C0 la_X8_306 hP hD hS 94 94 rfl rfl h_339 hl.1 (by omega) (mm_cat rfl) dX8_shift_131 (w2 := (wd_X8 cI cL cS cH a v_hasImage v_now_rows v_now_cols v_now_high v_now_wide v_now_folds v_now_wrong v_now_more v_now_rowOf v_now_colOf v_now_below v_now_face v_now_worn v_now_last v_now_bend v_now_tall v_kept_rows v_kept_cols v_kept_high v_kept_wide v_kept_folds v_kept_wrong v_kept_more v_kept_rowOf v_kept_colOf v_kept_below v_kept_face v_kept_worn v_kept_last v_kept_bend v_kept_tall v_wearing_size v_wearing_stepCount v_wearing_draftCount v_wearing_place v_wearing_fault v_wearing_stacked v_wearing_tape v_wearing_steps v_wearing_draft v_wearing_stack v_planned_size v_planned_trial_rows v_planned_trial_cols v_planned_trial_high v_planned_trial_wide v_planned_trial_folds v_planned_trial_wrong v_planned_trial_more v_planned_trial_rowOf v_planned_trial_colOf v_planned_trial_below v_planned_trial_face v_planned_trial_worn v_planned_trial_last v_planned_trial_bend v_planned_trial_tall v_planned_lines v_planned_ways v_search_found v_search_wrong v_search_more v_search_folds v_search_wanted v_search_levels0_rows v_search_levels0_cols v_search_levels0_high v_search_levels0_wide v_search_levels0_folds v_search_levels0_wrong v_search_levels0_more v_search_levels0_rowOf v_search_levels0_colOf v_search_levels0_below v_search_levels0_face v_search_levels0_worn v_search_levels0_last v_search_levels0_bend v_search_levels0_tall v_search_levels1_rows v_search_levels1_cols v_search_levels1_high v_search_levels1_wide v_search_levels1_folds v_search_levels1_wrong v_search_levels1_more v_search_levels1_rowOf v_search_levels1_colOf v_search_levels1_below v_search_levels1_face v_search_levels1_worn v_search_levels1_last v_search_levels1_bend v_search_levels1_tall v_search_levels2_rows v_search_levels2_cols v_search_levels2_high v_search_levels2_wide v_search_levels2_folds v_search_levels2_wrong v_search_levels2_more v_search_levels2_rowOf v_search_levels2_colOf v_search_levels2_below v_search_levels2_face v_search_levels2_worn v_search_levels2_last v_search_levels2_bend v_search_levels2_tall v_search_levels3_rows v_search_levels3_cols v_search_levels3_high v_search_levels3_wide v_search_levels3_folds v_search_levels3_wrong v_search_levels3_more v_search_levels3_rowOf v_search_levels3_colOf v_search_levels3_below v_search_levels3_face v_search_levels3_worn v_search_levels3_last v_search_levels3_bend v_search_levels3_tall v_search_path v_search_best v_strip_list v_strip_found v_strip_at v_changes_value v_changes_done v_changes_size v_changes_before v_changes_after v_foldings_size v_foldings_ran v_foldings_number v_foldings_kinds v_foldings_trace v_shelves0_holds v_shelves0_body v_shelves0_sort v_shelves0_size v_shelves0_items v_shelves1_holds v_shelves1_body v_shelves1_sort v_shelves1_size v_shelves1_items v_shelves2_holds v_shelves2_body v_shelves2_sort v_shelves2_size v_shelves2_items v_shelves3_holds v_shelves3_body v_shelves3_sort v_shelves3_size (mm_cp v_shelves3_items v_shelves3_items x2 x4 x5) v_shelves4_holds v_shelves4_body v_shelves4_sort v_shelves4_size v_shelves4_items v_shelves5_holds v_shelves5_body v_shelves5_sort v_shelves5_size v_shelves5_items)) rfl (fun H locs hP hD hS => ?_)
                                      generalize el_340 : (mm_cp v_shelves3_items v_shelves3_items x2 x4 x5) = l_340 at hP hD
                                      have hf := mm_nms hf el_340.symm
                                      refine lv_iload hx hb dX8_shift_134 (lv_at hl 7 rfl) ?_
                                      apply mm_sub7 hf
                                      exact mm_iret C0 hP hD hS dX8_shift_136
                                    · have hf := mm_ip hf (mm_b0 c_338)
                                      refine lv_bipush (v := -13) hx hb dX8_shift_113 (by decide) ?_
                                      apply mm_sub7 hf
                                      exact mm_iret C0 hP hD hS dX8_shift_115
                              · have hf := mm_in hf c_331
                                refine lv_bipush (v := -12) hx hb dX8_shift_82 (by decide) ?_
                                apply mm_sub7 hf
                                exact mm_iret C0 hP hD hS dX8_shift_84
                        · have hf := mm_ip hf c_328
                          refine lv_bipush (v := -11) hx hb dX8_shift_48 (by decide) ?_
                          apply mm_sub7 hf
                          exact mm_iret C0 hP hD hS dX8_shift_50
                    · have hf := mm_in hf c_326
                      by_cases c_341 : x3 = (4 : Int32)
                      · have hf := mm_ip hf c_341
                        refine mm_aald 3 rfl C0 hP 86 rfl (b := a 95) (by rw [c_341]; rfl) (by rw [c_341]; rfl) dX8_shift_29 ?_
                        refine lv_astore (lv' := [(7, .ref (a 95)), (6, .ref (a 93)), (0, .ref (a 0)), (1, .int x1), (2, .int x2), (3, .int x3), (4, .int x4), (5, .int x5)]) hx hb dX8_shift_30 hl (by decide) rfl (fun ls hl => ?_)
                        refine lv_aload hx hb dX8_shift_32 (lv_at hl 1 rfl) ?_
                        refine mm_get C0 hP iw_X6 93 rfl rfl 0 (by decide) fl_X8_168 rfl dX8_shift_34 ?_
                        refine lv_if_eq (tgt := 48) hx hb dX8_shift_37 (by decide) (fun c_342 => ?_) (fun c_342 => ?_)
                        · have hf := mm_ip hf c_342
                          refine lv_bipush (v := -11) hx hb dX8_shift_48 (by decide) ?_
                          apply mm_sub7 hf
                          exact mm_iret C0 hP hD hS dX8_shift_50
                        · have hf := mm_in hf c_342
                          refine lv_aload hx hb dX8_shift_40 (lv_at hl 0 rfl) ?_
                          refine mm_get C0 hP iw_X6 95 rfl rfl 0 (by decide) fl_X8_168 rfl dX8_shift_42 ?_
                          refine lv_if_ne (tgt := 51) hx hb dX8_shift_45 (by decide) (fun c_343 => ?_) (fun c_343 => ?_)
                          · have hf := mm_in hf c_343
                            refine lv_aload hx hb dX8_shift_51 (lv_at hl 1 rfl) ?_
                            refine mm_get C0 hP iw_X6 93 rfl rfl 0 (by decide) fl_X8_168 rfl dX8_shift_53 ?_
                            refine lv_iconst (v := 2) hx hb dX8_shift_56 (by decide) ?_
                            refine lv_icmp_ne (tgt := 82) hx hb dX8_shift_57 (by decide) (fun c_344 => ?_) (fun c_344 => ?_)
                            · have hf := mm_in hf c_344
                              refine lv_bipush (v := -12) hx hb dX8_shift_82 (by decide) ?_
                              apply mm_sub7 hf
                              exact mm_iret C0 hP hD hS dX8_shift_84
                            · have hf := mm_ip hf c_344
                              refine lv_aload hx hb dX8_shift_60 (lv_at hl 0 rfl) ?_
                              refine mm_get C0 hP iw_X6 95 rfl rfl 0 (by decide) fl_X8_168 rfl dX8_shift_62 ?_
                              refine lv_iconst (v := 2) hx hb dX8_shift_65 (by decide) ?_
                              refine lv_icmp_ne (tgt := 82) hx hb dX8_shift_66 (by decide) (fun c_345 => ?_) (fun c_345 => ?_)
                              · have hf := mm_in hf c_345
                                refine lv_bipush (v := -12) hx hb dX8_shift_82 (by decide) ?_
                                apply mm_sub7 hf
                                exact mm_iret C0 hP hD hS dX8_shift_84
                              · have hf := mm_ip hf c_345
                                refine lv_aload hx hb dX8_shift_69 (lv_at hl 1 rfl) ?_
                                refine mm_get C0 hP iw_X6 93 rfl rfl 2 (by decide) fl_X8_171 rfl dX8_shift_71 ?_
                                refine lv_aload hx hb dX8_shift_74 (lv_at hl 0 rfl) ?_
                                refine mm_get C0 hP iw_X6 95 rfl rfl 2 (by decide) fl_X8_171 rfl dX8_shift_76 ?_
                                refine lv_icmp_eq (tgt := 85) hx hb dX8_shift_79 (by decide) (fun c_346 => ?_) (fun c_346 => ?_)
                                · have hf := mm_ip hf c_346
                                  refine lv_iload hx hb dX8_shift_85 (lv_at hl 7 rfl) ?_
                                  refine lv_if_lt (tgt := 113) hx hb dX8_shift_87 (by decide) (fun c_347 => ?_) (fun c_347 => ?_)
                                  · have hf := mm_ip hf c_347
                                    refine lv_bipush (v := -13) hx hb dX8_shift_113 (by decide) ?_
                                    apply mm_sub7 hf
                                    exact mm_iret C0 hP hD hS dX8_shift_115
                                  · have hf := mm_in hf c_347
                                    refine lv_aload hx hb dX8_shift_90 (lv_at hl 1 rfl) ?_
                                    refine lv_iload_n hx hb dX8_shift_92 rfl (lv_at hl 4 rfl) ?_
                                    refine lv_iload hx hb dX8_shift_93 (lv_at hl 7 rfl) ?_
                                    obtain ⟨r_348, hc_349, hf⟩ := mm_bd1s hf
                                    refine mm_callW (q0 := 93) (ci := 6) (w2 := (wd_X8 cI cL cS cH a v_hasImage v_now_rows v_now_cols v_now_high v_now_wide v_now_folds v_now_wrong v_now_more v_now_rowOf v_now_colOf v_now_below v_now_face v_now_worn v_now_last v_now_bend v_now_tall v_kept_rows v_kept_cols v_kept_high v_kept_wide v_kept_folds v_kept_wrong v_kept_more v_kept_rowOf v_kept_colOf v_kept_below v_kept_face v_kept_worn v_kept_last v_kept_bend v_kept_tall v_wearing_size v_wearing_stepCount v_wearing_draftCount v_wearing_place v_wearing_fault v_wearing_stacked v_wearing_tape v_wearing_steps v_wearing_draft v_wearing_stack v_planned_size v_planned_trial_rows v_planned_trial_cols v_planned_trial_high v_planned_trial_wide v_planned_trial_folds v_planned_trial_wrong v_planned_trial_more v_planned_trial_rowOf v_planned_trial_colOf v_planned_trial_below v_planned_trial_face v_planned_trial_worn v_planned_trial_last v_planned_trial_bend v_planned_trial_tall v_planned_lines v_planned_ways v_search_found v_search_wrong v_search_more v_search_folds v_search_wanted v_search_levels0_rows v_search_levels0_cols v_search_levels0_high v_search_levels0_wide v_search_levels0_folds v_search_levels0_wrong v_search_levels0_more v_search_levels0_rowOf v_search_levels0_colOf v_search_levels0_below v_search_levels0_face v_search_levels0_worn v_search_levels0_last v_search_levels0_bend v_search_levels0_tall v_search_levels1_rows v_search_levels1_cols v_search_levels1_high v_search_levels1_wide v_search_levels1_folds v_search_levels1_wrong v_search_levels1_more v_search_levels1_rowOf v_search_levels1_colOf v_search_levels1_below v_search_levels1_face v_search_levels1_worn v_search_levels1_last v_search_levels1_bend v_search_levels1_tall v_search_levels2_rows v_search_levels2_cols v_search_levels2_high v_search_levels2_wide v_search_levels2_folds v_search_levels2_wrong v_search_levels2_more v_search_levels2_rowOf v_search_levels2_colOf v_search_levels2_below v_search_levels2_face v_search_levels2_worn v_search_levels2_last v_search_levels2_bend v_search_levels2_tall v_search_levels3_rows v_search_levels3_cols v_search_levels3_high v_search_levels3_wide v_search_levels3_folds v_search_levels3_wrong v_search_levels3_more v_search_levels3_rowOf v_search_levels3_colOf v_search_levels3_below v_search_levels3_face v_search_levels3_worn v_search_levels3_last v_search_levels3_bend v_search_levels3_tall v_search_path v_search_best v_strip_list v_strip_found v_strip_at v_changes_value v_changes_done v_changes_size v_changes_before v_changes_after v_foldings_size v_foldings_ran v_foldings_number v_foldings_kinds v_foldings_trace v_shelves0_holds v_shelves0_body v_shelves0_sort v_shelves0_size v_shelves0_items v_shelves1_holds v_shelves1_body v_shelves1_sort v_shelves1_size v_shelves1_items v_shelves2_holds v_shelves2_body v_shelves2_sort v_shelves2_size v_shelves2_items v_shelves3_holds v_shelves3_body v_shelves3_sort v_shelves3_size v_shelves3_items v_shelves4_holds v_shelves4_body v_shelves4_sort v_shelves4_size v_shelves4_items v_shelves5_holds v_shelves5_body v_shelves5_sort v_shelves5_size v_shelves5_items)) (rest := []) C0 lk_X8_303 (ctX6_hasPart (a := (fun k => a (k + 93))) (d := d - 1) (by omega) hc_349) (by omega) rfl hl.1 rfl (mm_cat rfl) dX8_shift_95 hP hD hA hS rfl rfl [false, false, false, false, false, false, false, false, false, false, false, false, false, false, false, false, false, false, false, false, false, false, false, false, false, false, false, false, false, false, false, false, false, false, false, false, false, false, false, false, false, false, false, false, false, false, false, false, false, false, false, false, false, false, false, false, false, false, false, false, false, false, false, false, false, false, false, false, false, false, false, false, false, false, false, false, false, false, false, false, false, false, false, false, false, false, false, false, false, false, false, false, false, true, true, false, false, false, false] rfl rfl rfl rfl (fun H locs hP hD hS => ?_)
                                    refine W.eq (g2 := F0 m 98 ls [.int (mm_b r_348)]) rfl ?_
                                    refine lv_if_eq (tgt := 113) hx hb dX8_shift_98 (by decide) (fun c_350 => ?_) (fun c_350 => ?_)
                                    · have hf := mm_ip hf (mm_b0 c_350)
                                      refine lv_bipush (v := -13) hx hb dX8_shift_113 (by decide) ?_
                                      apply mm_sub7 hf
                                      exact mm_iret C0 hP hD hS dX8_shift_115
                                    · have hf := mm_in hf (mm_b1 c_350)
                                      refine lv_aload hx hb dX8_shift_101 (lv_at hl 0 rfl) ?_
                                      refine lv_iload hx hb dX8_shift_103 (lv_at hl 6 rfl) ?_
                                      refine lv_iload hx hb dX8_shift_105 (lv_at hl 7 rfl) ?_
                                      obtain ⟨r_351, hc_352, hf⟩ := mm_bd1s hf
                                      refine mm_callW (q0 := 95) (ci := 6) (w2 := (wd_X8 cI cL cS cH a v_hasImage v_now_rows v_now_cols v_now_high v_now_wide v_now_folds v_now_wrong v_now_more v_now_rowOf v_now_colOf v_now_below v_now_face v_now_worn v_now_last v_now_bend v_now_tall v_kept_rows v_kept_cols v_kept_high v_kept_wide v_kept_folds v_kept_wrong v_kept_more v_kept_rowOf v_kept_colOf v_kept_below v_kept_face v_kept_worn v_kept_last v_kept_bend v_kept_tall v_wearing_size v_wearing_stepCount v_wearing_draftCount v_wearing_place v_wearing_fault v_wearing_stacked v_wearing_tape v_wearing_steps v_wearing_draft v_wearing_stack v_planned_size v_planned_trial_rows v_planned_trial_cols v_planned_trial_high v_planned_trial_wide v_planned_trial_folds v_planned_trial_wrong v_planned_trial_more v_planned_trial_rowOf v_planned_trial_colOf v_planned_trial_below v_planned_trial_face v_planned_trial_worn v_planned_trial_last v_planned_trial_bend v_planned_trial_tall v_planned_lines v_planned_ways v_search_found v_search_wrong v_search_more v_search_folds v_search_wanted v_search_levels0_rows v_search_levels0_cols v_search_levels0_high v_search_levels0_wide v_search_levels0_folds v_search_levels0_wrong v_search_levels0_more v_search_levels0_rowOf v_search_levels0_colOf v_search_levels0_below v_search_levels0_face v_search_levels0_worn v_search_levels0_last v_search_levels0_bend v_search_levels0_tall v_search_levels1_rows v_search_levels1_cols v_search_levels1_high v_search_levels1_wide v_search_levels1_folds v_search_levels1_wrong v_search_levels1_more v_search_levels1_rowOf v_search_levels1_colOf v_search_levels1_below v_search_levels1_face v_search_levels1_worn v_search_levels1_last v_search_levels1_bend v_search_levels1_tall v_search_levels2_rows v_search_levels2_cols v_search_levels2_high v_search_levels2_wide v_search_levels2_folds v_search_levels2_wrong v_search_levels2_more v_search_levels2_rowOf v_search_levels2_colOf v_search_levels2_below v_search_levels2_face v_search_levels2_worn v_search_levels2_last v_search_levels2_bend v_search_levels2_tall v_search_levels3_rows v_search_levels3_cols v_search_levels3_high v_search_levels3_wide v_search_levels3_folds v_search_levels3_wrong v_search_levels3_more v_search_levels3_rowOf v_search_levels3_colOf v_search_levels3_below v_search_levels3_face v_search_levels3_worn v_search_levels3_last v_search_levels3_bend v_search_levels3_tall v_search_path v_search_best v_strip_list v_strip_found v_strip_at v_changes_value v_changes_done v_changes_size v_changes_before v_changes_after v_foldings_size v_foldings_ran v_foldings_number v_foldings_kinds v_foldings_trace v_shelves0_holds v_shelves0_body v_shelves0_sort v_shelves0_size v_shelves0_items v_shelves1_holds v_shelves1_body v_shelves1_sort v_shelves1_size v_shelves1_items v_shelves2_holds v_shelves2_body v_shelves2_sort v_shelves2_size v_shelves2_items v_shelves3_holds v_shelves3_body v_shelves3_sort v_shelves3_size v_shelves3_items v_shelves4_holds v_shelves4_body v_shelves4_sort v_shelves4_size v_shelves4_items v_shelves5_holds v_shelves5_body v_shelves5_sort v_shelves5_size v_shelves5_items)) (rest := []) C0 lk_X8_303 (ctX6_hasPart (a := (fun k => a (k + 95))) (d := d - 1) (by omega) hc_352) (by omega) rfl hl.1 rfl (mm_cat rfl) dX8_shift_107 hP hD hA hS rfl rfl [false, false, false, false, false, false, false, false, false, false, false, false, false, false, false, false, false, false, false, false, false, false, false, false, false, false, false, false, false, false, false, false, false, false, false, false, false, false, false, false, false, false, false, false, false, false, false, false, false, false, false, false, false, false, false, false, false, false, false, false, false, false, false, false, false, false, false, false, false, false, false, false, false, false, false, false, false, false, false, false, false, false, false, false, false, false, false, false, false, false, false, false, false, false, false, true, true, false, false] rfl rfl rfl rfl (fun H locs hP hD hS => ?_)
                                      refine W.eq (g2 := F0 m 110 ls [.int (mm_b r_351)]) rfl ?_
                                      refine lv_if_ne (tgt := 116) hx hb dX8_shift_110 (by decide) (fun c_353 => ?_) (fun c_353 => ?_)
                                      · have hf := mm_in hf (mm_b1 c_353)
                                        refine lv_aload hx hb dX8_shift_116 (lv_at hl 1 rfl) ?_
                                        refine mm_get C0 hP iw_X6 93 rfl rfl 4 (by decide) fl_X8_299 rfl dX8_shift_118 ?_
                                        refine lv_iload_n hx hb dX8_shift_121 rfl (lv_at hl 4 rfl) ?_
                                        refine lv_aload hx hb dX8_shift_122 (lv_at hl 0 rfl) ?_
                                        refine mm_get C0 hP iw_X6 95 rfl rfl 4 (by decide) fl_X8_299 rfl dX8_shift_124 ?_
                                        refine lv_iload hx hb dX8_shift_127 (lv_at hl 6 rfl) ?_
                                        refine lv_iload hx hb dX8_shift_129 (lv_at hl 7 rfl) ?_
                                        obtain ⟨h_354, hf⟩ := mm_cks hf
                                        refine mm_copyl C0 la_X8_306 hP hD hS 94 96 rfl rfl h_354 hl.1 (by omega) (mm_cat rfl) dX8_shift_131 (w2 := (wd_X8 cI cL cS cH a v_hasImage v_now_rows v_now_cols v_now_high v_now_wide v_now_folds v_now_wrong v_now_more v_now_rowOf v_now_colOf v_now_below v_now_face v_now_worn v_now_last v_now_bend v_now_tall v_kept_rows v_kept_cols v_kept_high v_kept_wide v_kept_folds v_kept_wrong v_kept_more v_kept_rowOf v_kept_colOf v_kept_below v_kept_face v_kept_worn v_kept_last v_kept_bend v_kept_tall v_wearing_size v_wearing_stepCount v_wearing_draftCount v_wearing_place v_wearing_fault v_wearing_stacked v_wearing_tape v_wearing_steps v_wearing_draft v_wearing_stack v_planned_size v_planned_trial_rows v_planned_trial_cols v_planned_trial_high v_planned_trial_wide v_planned_trial_folds v_planned_trial_wrong v_planned_trial_more v_planned_trial_rowOf v_planned_trial_colOf v_planned_trial_below v_planned_trial_face v_planned_trial_worn v_planned_trial_last v_planned_trial_bend v_planned_trial_tall v_planned_lines v_planned_ways v_search_found v_search_wrong v_search_more v_search_folds v_search_wanted v_search_levels0_rows v_search_levels0_cols v_search_levels0_high v_search_levels0_wide v_search_levels0_folds v_search_levels0_wrong v_search_levels0_more v_search_levels0_rowOf v_search_levels0_colOf v_search_levels0_below v_search_levels0_face v_search_levels0_worn v_search_levels0_last v_search_levels0_bend v_search_levels0_tall v_search_levels1_rows v_search_levels1_cols v_search_levels1_high v_search_levels1_wide v_search_levels1_folds v_search_levels1_wrong v_search_levels1_more v_search_levels1_rowOf v_search_levels1_colOf v_search_levels1_below v_search_levels1_face v_search_levels1_worn v_search_levels1_last v_search_levels1_bend v_search_levels1_tall v_search_levels2_rows v_search_levels2_cols v_search_levels2_high v_search_levels2_wide v_search_levels2_folds v_search_levels2_wrong v_search_levels2_more v_search_levels2_rowOf v_search_levels2_colOf v_search_levels2_below v_search_levels2_face v_search_levels2_worn v_search_levels2_last v_search_levels2_bend v_search_levels2_tall v_search_levels3_rows v_search_levels3_cols v_search_levels3_high v_search_levels3_wide v_search_levels3_folds v_search_levels3_wrong v_search_levels3_more v_search_levels3_rowOf v_search_levels3_colOf v_search_levels3_below v_search_levels3_face v_search_levels3_worn v_search_levels3_last v_search_levels3_bend v_search_levels3_tall v_search_path v_search_best v_strip_list v_strip_found v_strip_at v_changes_value v_changes_done v_changes_size v_changes_before v_changes_after v_foldings_size v_foldings_ran v_foldings_number v_foldings_kinds v_foldings_trace v_shelves0_holds v_shelves0_body v_shelves0_sort v_shelves0_size v_shelves0_items v_shelves1_holds v_shelves1_body v_shelves1_sort v_shelves1_size v_shelves1_items v_shelves2_holds v_shelves2_body v_shelves2_sort v_shelves2_size v_shelves2_items v_shelves3_holds v_shelves3_body v_shelves3_sort v_shelves3_size v_shelves3_items v_shelves4_holds v_shelves4_body v_shelves4_sort v_shelves4_size (mm_cp v_shelves3_items v_shelves4_items x2 x4 x5) v_shelves5_holds v_shelves5_body v_shelves5_sort v_shelves5_size v_shelves5_items)) rfl (fun H locs hP hD hS => ?_)
                                        generalize el_355 : (mm_cp v_shelves3_items v_shelves4_items x2 x4 x5) = l_355 at hP hD
                                        have hf := mm_nms hf el_355.symm
                                        refine lv_iload hx hb dX8_shift_134 (lv_at hl 7 rfl) ?_
                                        apply mm_sub7 hf
                                        exact mm_iret C0 hP hD hS dX8_shift_136
                                      · have hf := mm_ip hf (mm_b0 c_353)
                                        refine lv_bipush (v := -13) hx hb dX8_shift_113 (by decide) ?_
                                        apply mm_sub7 hf
                                        exact mm_iret C0 hP hD hS dX8_shift_115
                                · have hf := mm_in hf c_346
                                  refine lv_bipush (v := -12) hx hb dX8_shift_82 (by decide) ?_
                                  apply mm_sub7 hf
                                  exact mm_iret C0 hP hD hS dX8_shift_84
                          · have hf := mm_ip hf c_343
                            refine lv_bipush (v := -11) hx hb dX8_shift_48 (by decide) ?_
                            apply mm_sub7 hf
                            exact mm_iret C0 hP hD hS dX8_shift_50
                      · have hf := mm_in hf c_341
                        by_cases c_356 : x3 = (5 : Int32)
                        · have hf := mm_ip hf c_356
                          refine mm_aald 3 rfl C0 hP 86 rfl (b := a 97) (by rw [c_356]; rfl) (by rw [c_356]; rfl) dX8_shift_29 ?_
                          refine lv_astore (lv' := [(7, .ref (a 97)), (6, .ref (a 93)), (0, .ref (a 0)), (1, .int x1), (2, .int x2), (3, .int x3), (4, .int x4), (5, .int x5)]) hx hb dX8_shift_30 hl (by decide) rfl (fun ls hl => ?_)
                          refine lv_aload hx hb dX8_shift_32 (lv_at hl 1 rfl) ?_
                          refine mm_get C0 hP iw_X6 93 rfl rfl 0 (by decide) fl_X8_168 rfl dX8_shift_34 ?_
                          refine lv_if_eq (tgt := 48) hx hb dX8_shift_37 (by decide) (fun c_357 => ?_) (fun c_357 => ?_)
                          · have hf := mm_ip hf c_357
                            refine lv_bipush (v := -11) hx hb dX8_shift_48 (by decide) ?_
                            apply mm_sub7 hf
                            exact mm_iret C0 hP hD hS dX8_shift_50
                          · have hf := mm_in hf c_357
                            refine lv_aload hx hb dX8_shift_40 (lv_at hl 0 rfl) ?_
                            refine mm_get C0 hP iw_X6 97 rfl rfl 0 (by decide) fl_X8_168 rfl dX8_shift_42 ?_
                            refine lv_if_ne (tgt := 51) hx hb dX8_shift_45 (by decide) (fun c_358 => ?_) (fun c_358 => ?_)
                            · have hf := mm_in hf c_358
                              refine lv_aload hx hb dX8_shift_51 (lv_at hl 1 rfl) ?_
                              refine mm_get C0 hP iw_X6 93 rfl rfl 0 (by decide) fl_X8_168 rfl dX8_shift_53 ?_
                              refine lv_iconst (v := 2) hx hb dX8_shift_56 (by decide) ?_
                              refine lv_icmp_ne (tgt := 82) hx hb dX8_shift_57 (by decide) (fun c_359 => ?_) (fun c_359 => ?_)
                              · have hf := mm_in hf c_359
                                refine lv_bipush (v := -12) hx hb dX8_shift_82 (by decide) ?_
                                apply mm_sub7 hf
                                exact mm_iret C0 hP hD hS dX8_shift_84
                              · have hf := mm_ip hf c_359
                                refine lv_aload hx hb dX8_shift_60 (lv_at hl 0 rfl) ?_
                                refine mm_get C0 hP iw_X6 97 rfl rfl 0 (by decide) fl_X8_168 rfl dX8_shift_62 ?_
                                refine lv_iconst (v := 2) hx hb dX8_shift_65 (by decide) ?_
                                refine lv_icmp_ne (tgt := 82) hx hb dX8_shift_66 (by decide) (fun c_360 => ?_) (fun c_360 => ?_)
                                · have hf := mm_in hf c_360
                                  refine lv_bipush (v := -12) hx hb dX8_shift_82 (by decide) ?_
                                  apply mm_sub7 hf
                                  exact mm_iret C0 hP hD hS dX8_shift_84
                                · have hf := mm_ip hf c_360
                                  refine lv_aload hx hb dX8_shift_69 (lv_at hl 1 rfl) ?_
                                  refine mm_get C0 hP iw_X6 93 rfl rfl 2 (by decide) fl_X8_171 rfl dX8_shift_71 ?_
                                  refine lv_aload hx hb dX8_shift_74 (lv_at hl 0 rfl) ?_
                                  refine mm_get C0 hP iw_X6 97 rfl rfl 2 (by decide) fl_X8_171 rfl dX8_shift_76 ?_
                                  refine lv_icmp_eq (tgt := 85) hx hb dX8_shift_79 (by decide) (fun c_361 => ?_) (fun c_361 => ?_)
                                  · have hf := mm_ip hf c_361
                                    refine lv_iload hx hb dX8_shift_85 (lv_at hl 7 rfl) ?_
                                    refine lv_if_lt (tgt := 113) hx hb dX8_shift_87 (by decide) (fun c_362 => ?_) (fun c_362 => ?_)
                                    · have hf := mm_ip hf c_362
                                      refine lv_bipush (v := -13) hx hb dX8_shift_113 (by decide) ?_
                                      apply mm_sub7 hf
                                      exact mm_iret C0 hP hD hS dX8_shift_115
                                    · have hf := mm_in hf c_362
                                      refine lv_aload hx hb dX8_shift_90 (lv_at hl 1 rfl) ?_
                                      refine lv_iload_n hx hb dX8_shift_92 rfl (lv_at hl 4 rfl) ?_
                                      refine lv_iload hx hb dX8_shift_93 (lv_at hl 7 rfl) ?_
                                      obtain ⟨r_363, hc_364, hf⟩ := mm_bd1s hf
                                      refine mm_callW (q0 := 93) (ci := 6) (w2 := (wd_X8 cI cL cS cH a v_hasImage v_now_rows v_now_cols v_now_high v_now_wide v_now_folds v_now_wrong v_now_more v_now_rowOf v_now_colOf v_now_below v_now_face v_now_worn v_now_last v_now_bend v_now_tall v_kept_rows v_kept_cols v_kept_high v_kept_wide v_kept_folds v_kept_wrong v_kept_more v_kept_rowOf v_kept_colOf v_kept_below v_kept_face v_kept_worn v_kept_last v_kept_bend v_kept_tall v_wearing_size v_wearing_stepCount v_wearing_draftCount v_wearing_place v_wearing_fault v_wearing_stacked v_wearing_tape v_wearing_steps v_wearing_draft v_wearing_stack v_planned_size v_planned_trial_rows v_planned_trial_cols v_planned_trial_high v_planned_trial_wide v_planned_trial_folds v_planned_trial_wrong v_planned_trial_more v_planned_trial_rowOf v_planned_trial_colOf v_planned_trial_below v_planned_trial_face v_planned_trial_worn v_planned_trial_last v_planned_trial_bend v_planned_trial_tall v_planned_lines v_planned_ways v_search_found v_search_wrong v_search_more v_search_folds v_search_wanted v_search_levels0_rows v_search_levels0_cols v_search_levels0_high v_search_levels0_wide v_search_levels0_folds v_search_levels0_wrong v_search_levels0_more v_search_levels0_rowOf v_search_levels0_colOf v_search_levels0_below v_search_levels0_face v_search_levels0_worn v_search_levels0_last v_search_levels0_bend v_search_levels0_tall v_search_levels1_rows v_search_levels1_cols v_search_levels1_high v_search_levels1_wide v_search_levels1_folds v_search_levels1_wrong v_search_levels1_more v_search_levels1_rowOf v_search_levels1_colOf v_search_levels1_below v_search_levels1_face v_search_levels1_worn v_search_levels1_last v_search_levels1_bend v_search_levels1_tall v_search_levels2_rows v_search_levels2_cols v_search_levels2_high v_search_levels2_wide v_search_levels2_folds v_search_levels2_wrong v_search_levels2_more v_search_levels2_rowOf v_search_levels2_colOf v_search_levels2_below v_search_levels2_face v_search_levels2_worn v_search_levels2_last v_search_levels2_bend v_search_levels2_tall v_search_levels3_rows v_search_levels3_cols v_search_levels3_high v_search_levels3_wide v_search_levels3_folds v_search_levels3_wrong v_search_levels3_more v_search_levels3_rowOf v_search_levels3_colOf v_search_levels3_below v_search_levels3_face v_search_levels3_worn v_search_levels3_last v_search_levels3_bend v_search_levels3_tall v_search_path v_search_best v_strip_list v_strip_found v_strip_at v_changes_value v_changes_done v_changes_size v_changes_before v_changes_after v_foldings_size v_foldings_ran v_foldings_number v_foldings_kinds v_foldings_trace v_shelves0_holds v_shelves0_body v_shelves0_sort v_shelves0_size v_shelves0_items v_shelves1_holds v_shelves1_body v_shelves1_sort v_shelves1_size v_shelves1_items v_shelves2_holds v_shelves2_body v_shelves2_sort v_shelves2_size v_shelves2_items v_shelves3_holds v_shelves3_body v_shelves3_sort v_shelves3_size v_shelves3_items v_shelves4_holds v_shelves4_body v_shelves4_sort v_shelves4_size v_shelves4_items v_shelves5_holds v_shelves5_body v_shelves5_sort v_shelves5_size v_shelves5_items)) (rest := []) C0 lk_X8_303 (ctX6_hasPart (a := (fun k => a (k + 93))) (d := d - 1) (by omega) hc_364) (by omega) rfl hl.1 rfl (mm_cat rfl) dX8_shift_95 hP hD hA hS rfl rfl [false, false, false, false, false, false, false, false, false, false, false, false, false, false, false, false, false, false, false, false, false, false, false, false, false, false, false, false, false, false, false, false, false, false, false, false, false, false, false, false, false, false, false, false, false, false, false, false, false, false, false, false, false, false, false, false, false, false, false, false, false, false, false, false, false, false, false, false, false, false, false, false, false, false, false, false, false, false, false, false, false, false, false, false, false, false, false, false, false, false, false, false, false, true, true, false, false, false, false] rfl rfl rfl rfl (fun H locs hP hD hS => ?_)
                                      refine W.eq (g2 := F0 m 98 ls [.int (mm_b r_363)]) rfl ?_
                                      refine lv_if_eq (tgt := 113) hx hb dX8_shift_98 (by decide) (fun c_365 => ?_) (fun c_365 => ?_)
                                      · have hf := mm_ip hf (mm_b0 c_365)
                                        refine lv_bipush (v := -13) hx hb dX8_shift_113 (by decide) ?_
                                        apply mm_sub7 hf
                                        exact mm_iret C0 hP hD hS dX8_shift_115
                                      · have hf := mm_in hf (mm_b1 c_365)
                                        refine lv_aload hx hb dX8_shift_101 (lv_at hl 0 rfl) ?_
                                        refine lv_iload hx hb dX8_shift_103 (lv_at hl 6 rfl) ?_
                                        refine lv_iload hx hb dX8_shift_105 (lv_at hl 7 rfl) ?_
                                        obtain ⟨r_366, hc_367, hf⟩ := mm_bd1s hf
                                        refine mm_callW (q0 := 97) (ci := 6) (w2 := (wd_X8 cI cL cS cH a v_hasImage v_now_rows v_now_cols v_now_high v_now_wide v_now_folds v_now_wrong v_now_more v_now_rowOf v_now_colOf v_now_below v_now_face v_now_worn v_now_last v_now_bend v_now_tall v_kept_rows v_kept_cols v_kept_high v_kept_wide v_kept_folds v_kept_wrong v_kept_more v_kept_rowOf v_kept_colOf v_kept_below v_kept_face v_kept_worn v_kept_last v_kept_bend v_kept_tall v_wearing_size v_wearing_stepCount v_wearing_draftCount v_wearing_place v_wearing_fault v_wearing_stacked v_wearing_tape v_wearing_steps v_wearing_draft v_wearing_stack v_planned_size v_planned_trial_rows v_planned_trial_cols v_planned_trial_high v_planned_trial_wide v_planned_trial_folds v_planned_trial_wrong v_planned_trial_more v_planned_trial_rowOf v_planned_trial_colOf v_planned_trial_below v_planned_trial_face v_planned_trial_worn v_planned_trial_last v_planned_trial_bend v_planned_trial_tall v_planned_lines v_planned_ways v_search_found v_search_wrong v_search_more v_search_folds v_search_wanted v_search_levels0_rows v_search_levels0_cols v_search_levels0_high v_search_levels0_wide v_search_levels0_folds v_search_levels0_wrong v_search_levels0_more v_search_levels0_rowOf v_search_levels0_colOf v_search_levels0_below v_search_levels0_face v_search_levels0_worn v_search_levels0_last v_search_levels0_bend v_search_levels0_tall v_search_levels1_rows v_search_levels1_cols v_search_levels1_high v_search_levels1_wide v_search_levels1_folds v_search_levels1_wrong v_search_levels1_more v_search_levels1_rowOf v_search_levels1_colOf v_search_levels1_below v_search_levels1_face v_search_levels1_worn v_search_levels1_last v_search_levels1_bend v_search_levels1_tall v_search_levels2_rows v_search_levels2_cols v_search_levels2_high v_search_levels2_wide v_search_levels2_folds v_search_levels2_wrong v_search_levels2_more v_search_levels2_rowOf v_search_levels2_colOf v_search_levels2_below v_search_levels2_face v_search_levels2_worn v_search_levels2_last v_search_levels2_bend v_search_levels2_tall v_search_levels3_rows v_search_levels3_cols v_search_levels3_high v_search_levels3_wide v_search_levels3_folds v_search_levels3_wrong v_search_levels3_more v_search_levels3_rowOf v_search_levels3_colOf v_search_levels3_below v_search_levels3_face v_search_levels3_worn v_search_levels3_last v_search_levels3_bend v_search_levels3_tall v_search_path v_search_best v_strip_list v_strip_found v_strip_at v_changes_value v_changes_done v_changes_size v_changes_before v_changes_after v_foldings_size v_foldings_ran v_foldings_number v_foldings_kinds v_foldings_trace v_shelves0_holds v_shelves0_body v_shelves0_sort v_shelves0_size v_shelves0_items v_shelves1_holds v_shelves1_body v_shelves1_sort v_shelves1_size v_shelves1_items v_shelves2_holds v_shelves2_body v_shelves2_sort v_shelves2_size v_shelves2_items v_shelves3_holds v_shelves3_body v_shelves3_sort v_shelves3_size v_shelves3_items v_shelves4_holds v_shelves4_body v_shelves4_sort v_shelves4_size v_shelves4_items v_shelves5_holds v_shelves5_body v_shelves5_sort v_shelves5_size v_shelves5_items)) (rest := []) C0 lk_X8_303 (ctX6_hasPart (a := (fun k => a (k + 97))) (d := d - 1) (by omega) hc_367) (by omega) rfl hl.1 rfl (mm_cat rfl) dX8_shift_107 hP hD hA hS rfl rfl [false, false, false, false, false, false, false, false, false, false, false, false, false, false, false, false, false, false, false, false, false, false, false, false, false, false, false, false, false, false, false, false, false, false, false, false, false, false, false, false, false, false, false, false, false, false, false, false, false, false, false, false, false, false, false, false, false, false, false, false, false, false, false, false, false, false, false, false, false, false, false, false, false, false, false, false, false, false, false, false, false, false, false, false, false, false, false, false, false, false, false, false, false, false, false, false, false, true, true] rfl rfl rfl rfl (fun H locs hP hD hS => ?_)
                                        refine W.eq (g2 := F0 m 110 ls [.int (mm_b r_366)]) rfl ?_
                                        refine lv_if_ne (tgt := 116) hx hb dX8_shift_110 (by decide) (fun c_368 => ?_) (fun c_368 => ?_)
                                        · have hf := mm_in hf (mm_b1 c_368)
                                          refine lv_aload hx hb dX8_shift_116 (lv_at hl 1 rfl) ?_
                                          refine mm_get C0 hP iw_X6 93 rfl rfl 4 (by decide) fl_X8_299 rfl dX8_shift_118 ?_
                                          refine lv_iload_n hx hb dX8_shift_121 rfl (lv_at hl 4 rfl) ?_
                                          refine lv_aload hx hb dX8_shift_122 (lv_at hl 0 rfl) ?_
                                          refine mm_get C0 hP iw_X6 97 rfl rfl 4 (by decide) fl_X8_299 rfl dX8_shift_124 ?_
                                          refine lv_iload hx hb dX8_shift_127 (lv_at hl 6 rfl) ?_
                                          refine lv_iload hx hb dX8_shift_129 (lv_at hl 7 rfl) ?_
                                          obtain ⟨h_369, hf⟩ := mm_cks hf
                                          refine mm_copyl C0 la_X8_306 hP hD hS 94 98 rfl rfl h_369 hl.1 (by omega) (mm_cat rfl) dX8_shift_131 (w2 := (wd_X8 cI cL cS cH a v_hasImage v_now_rows v_now_cols v_now_high v_now_wide v_now_folds v_now_wrong v_now_more v_now_rowOf v_now_colOf v_now_below v_now_face v_now_worn v_now_last v_now_bend v_now_tall v_kept_rows v_kept_cols v_kept_high v_kept_wide v_kept_folds v_kept_wrong v_kept_more v_kept_rowOf v_kept_colOf v_kept_below v_kept_face v_kept_worn v_kept_last v_kept_bend v_kept_tall v_wearing_size v_wearing_stepCount v_wearing_draftCount v_wearing_place v_wearing_fault v_wearing_stacked v_wearing_tape v_wearing_steps v_wearing_draft v_wearing_stack v_planned_size v_planned_trial_rows v_planned_trial_cols v_planned_trial_high v_planned_trial_wide v_planned_trial_folds v_planned_trial_wrong v_planned_trial_more v_planned_trial_rowOf v_planned_trial_colOf v_planned_trial_below v_planned_trial_face v_planned_trial_worn v_planned_trial_last v_planned_trial_bend v_planned_trial_tall v_planned_lines v_planned_ways v_search_found v_search_wrong v_search_more v_search_folds v_search_wanted v_search_levels0_rows v_search_levels0_cols v_search_levels0_high v_search_levels0_wide v_search_levels0_folds v_search_levels0_wrong v_search_levels0_more v_search_levels0_rowOf v_search_levels0_colOf v_search_levels0_below v_search_levels0_face v_search_levels0_worn v_search_levels0_last v_search_levels0_bend v_search_levels0_tall v_search_levels1_rows v_search_levels1_cols v_search_levels1_high v_search_levels1_wide v_search_levels1_folds v_search_levels1_wrong v_search_levels1_more v_search_levels1_rowOf v_search_levels1_colOf v_search_levels1_below v_search_levels1_face v_search_levels1_worn v_search_levels1_last v_search_levels1_bend v_search_levels1_tall v_search_levels2_rows v_search_levels2_cols v_search_levels2_high v_search_levels2_wide v_search_levels2_folds v_search_levels2_wrong v_search_levels2_more v_search_levels2_rowOf v_search_levels2_colOf v_search_levels2_below v_search_levels2_face v_search_levels2_worn v_search_levels2_last v_search_levels2_bend v_search_levels2_tall v_search_levels3_rows v_search_levels3_cols v_search_levels3_high v_search_levels3_wide v_search_levels3_folds v_search_levels3_wrong v_search_levels3_more v_search_levels3_rowOf v_search_levels3_colOf v_search_levels3_below v_search_levels3_face v_search_levels3_worn v_search_levels3_last v_search_levels3_bend v_search_levels3_tall v_search_path v_search_best v_strip_list v_strip_found v_strip_at v_changes_value v_changes_done v_changes_size v_changes_before v_changes_after v_foldings_size v_foldings_ran v_foldings_number v_foldings_kinds v_foldings_trace v_shelves0_holds v_shelves0_body v_shelves0_sort v_shelves0_size v_shelves0_items v_shelves1_holds v_shelves1_body v_shelves1_sort v_shelves1_size v_shelves1_items v_shelves2_holds v_shelves2_body v_shelves2_sort v_shelves2_size v_shelves2_items v_shelves3_holds v_shelves3_body v_shelves3_sort v_shelves3_size v_shelves3_items v_shelves4_holds v_shelves4_body v_shelves4_sort v_shelves4_size v_shelves4_items v_shelves5_holds v_shelves5_body v_shelves5_sort v_shelves5_size (mm_cp v_shelves3_items v_shelves5_items x2 x4 x5))) rfl (fun H locs hP hD hS => ?_)
                                          generalize el_370 : (mm_cp v_shelves3_items v_shelves5_items x2 x4 x5) = l_370 at hP hD
                                          have hf := mm_nms hf el_370.symm
                                          refine lv_iload hx hb dX8_shift_134 (lv_at hl 7 rfl) ?_
                                          apply mm_sub7 hf
                                          exact mm_iret C0 hP hD hS dX8_shift_136
                                        · have hf := mm_ip hf (mm_b0 c_368)
                                          refine lv_bipush (v := -13) hx hb dX8_shift_113 (by decide) ?_
                                          apply mm_sub7 hf
                                          exact mm_iret C0 hP hD hS dX8_shift_115
                                  · have hf := mm_in hf c_361
                                    refine lv_bipush (v := -12) hx hb dX8_shift_82 (by decide) ?_
                                    apply mm_sub7 hf
                                    exact mm_iret C0 hP hD hS dX8_shift_84
                            · have hf := mm_ip hf c_358
                              refine lv_bipush (v := -11) hx hb dX8_shift_48 (by decide) ?_
                              apply mm_sub7 hf
                              exact mm_iret C0 hP hD hS dX8_shift_50
                        · have hf := mm_in hf c_356
                          cases hf
            · have hf := mm_in hf c_280
              by_cases c_371 : x1 = (4 : Int32)
              · have hf := mm_ip hf c_371
                refine mm_aald 3 rfl C0 hP 86 rfl (b := a 95) (by rw [c_371]; rfl) (by rw [c_371]; rfl) dX8_shift_21 ?_
                refine lv_astore (lv' := [(6, .ref (a 95)), (0, .ref (a 0)), (1, .int x1), (2, .int x2), (3, .int x3), (4, .int x4), (5, .int x5)]) hx hb dX8_shift_22 hl (by decide) rfl (fun ls hl => ?_)
                refine lv_aload_n hx hb dX8_shift_24 rfl (lv_at hl 1 rfl) ?_
                refine mm_get C0 hP iw_X8 0 rfl rfl 8 (by decide) fl_X8_63 rfl dX8_shift_25 ?_
                refine lv_iload_n hx hb dX8_shift_28 rfl (lv_at hl 4 rfl) ?_
                by_cases c_372 : x3 = (0 : Int32)
                · have hf := mm_ip hf c_372
                  refine mm_aald 3 rfl C0 hP 86 rfl (b := a 87) (by rw [c_372]; rfl) (by rw [c_372]; rfl) dX8_shift_29 ?_
                  refine lv_astore (lv' := [(7, .ref (a 87)), (6, .ref (a 95)), (0, .ref (a 0)), (1, .int x1), (2, .int x2), (3, .int x3), (4, .int x4), (5, .int x5)]) hx hb dX8_shift_30 hl (by decide) rfl (fun ls hl => ?_)
                  refine lv_aload hx hb dX8_shift_32 (lv_at hl 1 rfl) ?_
                  refine mm_get C0 hP iw_X6 95 rfl rfl 0 (by decide) fl_X8_168 rfl dX8_shift_34 ?_
                  refine lv_if_eq (tgt := 48) hx hb dX8_shift_37 (by decide) (fun c_373 => ?_) (fun c_373 => ?_)
                  · have hf := mm_ip hf c_373
                    refine lv_bipush (v := -11) hx hb dX8_shift_48 (by decide) ?_
                    apply mm_sub7 hf
                    exact mm_iret C0 hP hD hS dX8_shift_50
                  · have hf := mm_in hf c_373
                    refine lv_aload hx hb dX8_shift_40 (lv_at hl 0 rfl) ?_
                    refine mm_get C0 hP iw_X6 87 rfl rfl 0 (by decide) fl_X8_168 rfl dX8_shift_42 ?_
                    refine lv_if_ne (tgt := 51) hx hb dX8_shift_45 (by decide) (fun c_374 => ?_) (fun c_374 => ?_)
                    · have hf := mm_in hf c_374
                      refine lv_aload hx hb dX8_shift_51 (lv_at hl 1 rfl) ?_
                      refine mm_get C0 hP iw_X6 95 rfl rfl 0 (by decide) fl_X8_168 rfl dX8_shift_53 ?_
                      refine lv_iconst (v := 2) hx hb dX8_shift_56 (by decide) ?_
                      refine lv_icmp_ne (tgt := 82) hx hb dX8_shift_57 (by decide) (fun c_375 => ?_) (fun c_375 => ?_)
                      · have hf := mm_in hf c_375
                        refine lv_bipush (v := -12) hx hb dX8_shift_82 (by decide) ?_
                        apply mm_sub7 hf
                        exact mm_iret C0 hP hD hS dX8_shift_84
                      · have hf := mm_ip hf c_375
                        refine lv_aload hx hb dX8_shift_60 (lv_at hl 0 rfl) ?_
                        refine mm_get C0 hP iw_X6 87 rfl rfl 0 (by decide) fl_X8_168 rfl dX8_shift_62 ?_
                        refine lv_iconst (v := 2) hx hb dX8_shift_65 (by decide) ?_
                        refine lv_icmp_ne (tgt := 82) hx hb dX8_shift_66 (by decide) (fun c_376 => ?_) (fun c_376 => ?_)
                        · have hf := mm_in hf c_376
                          refine lv_bipush (v := -12) hx hb dX8_shift_82 (by decide) ?_
                          apply mm_sub7 hf
                          exact mm_iret C0 hP hD hS dX8_shift_84
                        · have hf := mm_ip hf c_376
                          refine lv_aload hx hb dX8_shift_69 (lv_at hl 1 rfl) ?_
                          refine mm_get C0 hP iw_X6 95 rfl rfl 2 (by decide) fl_X8_171 rfl dX8_shift_71 ?_
                          refine lv_aload hx hb dX8_shift_74 (lv_at hl 0 rfl) ?_
                          refine mm_get C0 hP iw_X6 87 rfl rfl 2 (by decide) fl_X8_171 rfl dX8_shift_76 ?_
                          refine lv_icmp_eq (tgt := 85) hx hb dX8_shift_79 (by decide) (fun c_377 => ?_) (fun c_377 => ?_)
                          · have hf := mm_ip hf c_377
                            refine lv_iload hx hb dX8_shift_85 (lv_at hl 7 rfl) ?_
                            refine lv_if_lt (tgt := 113) hx hb dX8_shift_87 (by decide) (fun c_378 => ?_) (fun c_378 => ?_)
                            · have hf := mm_ip hf c_378
                              refine lv_bipush (v := -13) hx hb dX8_shift_113 (by decide) ?_
                              apply mm_sub7 hf
                              exact mm_iret C0 hP hD hS dX8_shift_115
                            · have hf := mm_in hf c_378
                              refine lv_aload hx hb dX8_shift_90 (lv_at hl 1 rfl) ?_
                              refine lv_iload_n hx hb dX8_shift_92 rfl (lv_at hl 4 rfl) ?_
                              refine lv_iload hx hb dX8_shift_93 (lv_at hl 7 rfl) ?_
                              obtain ⟨r_379, hc_380, hf⟩ := mm_bd1s hf
                              refine mm_callW (q0 := 95) (ci := 6) (w2 := (wd_X8 cI cL cS cH a v_hasImage v_now_rows v_now_cols v_now_high v_now_wide v_now_folds v_now_wrong v_now_more v_now_rowOf v_now_colOf v_now_below v_now_face v_now_worn v_now_last v_now_bend v_now_tall v_kept_rows v_kept_cols v_kept_high v_kept_wide v_kept_folds v_kept_wrong v_kept_more v_kept_rowOf v_kept_colOf v_kept_below v_kept_face v_kept_worn v_kept_last v_kept_bend v_kept_tall v_wearing_size v_wearing_stepCount v_wearing_draftCount v_wearing_place v_wearing_fault v_wearing_stacked v_wearing_tape v_wearing_steps v_wearing_draft v_wearing_stack v_planned_size v_planned_trial_rows v_planned_trial_cols v_planned_trial_high v_planned_trial_wide v_planned_trial_folds v_planned_trial_wrong v_planned_trial_more v_planned_trial_rowOf v_planned_trial_colOf v_planned_trial_below v_planned_trial_face v_planned_trial_worn v_planned_trial_last v_planned_trial_bend v_planned_trial_tall v_planned_lines v_planned_ways v_search_found v_search_wrong v_search_more v_search_folds v_search_wanted v_search_levels0_rows v_search_levels0_cols v_search_levels0_high v_search_levels0_wide v_search_levels0_folds v_search_levels0_wrong v_search_levels0_more v_search_levels0_rowOf v_search_levels0_colOf v_search_levels0_below v_search_levels0_face v_search_levels0_worn v_search_levels0_last v_search_levels0_bend v_search_levels0_tall v_search_levels1_rows v_search_levels1_cols v_search_levels1_high v_search_levels1_wide v_search_levels1_folds v_search_levels1_wrong v_search_levels1_more v_search_levels1_rowOf v_search_levels1_colOf v_search_levels1_below v_search_levels1_face v_search_levels1_worn v_search_levels1_last v_search_levels1_bend v_search_levels1_tall v_search_levels2_rows v_search_levels2_cols v_search_levels2_high v_search_levels2_wide v_search_levels2_folds v_search_levels2_wrong v_search_levels2_more v_search_levels2_rowOf v_search_levels2_colOf v_search_levels2_below v_search_levels2_face v_search_levels2_worn v_search_levels2_last v_search_levels2_bend v_search_levels2_tall v_search_levels3_rows v_search_levels3_cols v_search_levels3_high v_search_levels3_wide v_search_levels3_folds v_search_levels3_wrong v_search_levels3_more v_search_levels3_rowOf v_search_levels3_colOf v_search_levels3_below v_search_levels3_face v_search_levels3_worn v_search_levels3_last v_search_levels3_bend v_search_levels3_tall v_search_path v_search_best v_strip_list v_strip_found v_strip_at v_changes_value v_changes_done v_changes_size v_changes_before v_changes_after v_foldings_size v_foldings_ran v_foldings_number v_foldings_kinds v_foldings_trace v_shelves0_holds v_shelves0_body v_shelves0_sort v_shelves0_size v_shelves0_items v_shelves1_holds v_shelves1_body v_shelves1_sort v_shelves1_size v_shelves1_items v_shelves2_holds v_shelves2_body v_shelves2_sort v_shelves2_size v_shelves2_items v_shelves3_holds v_shelves3_body v_shelves3_sort v_shelves3_size v_shelves3_items v_shelves4_holds v_shelves4_body v_shelves4_sort v_shelves4_size v_shelves4_items v_shelves5_holds v_shelves5_body v_shelves5_sort v_shelves5_size v_shelves5_items)) (rest := []) C0 lk_X8_303 (ctX6_hasPart (a := (fun k => a (k + 95))) (d := d - 1) (by omega) hc_380) (by omega) rfl hl.1 rfl (mm_cat rfl) dX8_shift_95 hP hD hA hS rfl rfl [false, false, false, false, false, false, false, false, false, false, false, false, false, false, false, false, false, false, false, false, false, false, false, false, false, false, false, false, false, false, false, false, false, false, false, false, false, false, false, false, false, false, false, false, false, false, false, false, false, false, false, false, false, false, false, false, false, false, false, false, false, false, false, false, false, false, false, false, false, false, false, false, false, false, false, false, false, false, false, false, false, false, false, false, false, false, false, false, false, false, false, false, false, false, false, true, true, false, false] rfl rfl rfl rfl (fun H locs hP hD hS => ?_)
                              refine W.eq (g2 := F0 m 98 ls [.int (mm_b r_379)]) rfl ?_
                              refine lv_if_eq (tgt := 113) hx hb dX8_shift_98 (by decide) (fun c_381 => ?_) (fun c_381 => ?_)
                              · have hf := mm_ip hf (mm_b0 c_381)
                                refine lv_bipush (v := -13) hx hb dX8_shift_113 (by decide) ?_
                                apply mm_sub7 hf
                                exact mm_iret C0 hP hD hS dX8_shift_115
                              · have hf := mm_in hf (mm_b1 c_381)
                                refine lv_aload hx hb dX8_shift_101 (lv_at hl 0 rfl) ?_
                                refine lv_iload hx hb dX8_shift_103 (lv_at hl 6 rfl) ?_
                                refine lv_iload hx hb dX8_shift_105 (lv_at hl 7 rfl) ?_
                                obtain ⟨r_382, hc_383, hf⟩ := mm_bd1s hf
                                refine mm_callW (q0 := 87) (ci := 6) (w2 := (wd_X8 cI cL cS cH a v_hasImage v_now_rows v_now_cols v_now_high v_now_wide v_now_folds v_now_wrong v_now_more v_now_rowOf v_now_colOf v_now_below v_now_face v_now_worn v_now_last v_now_bend v_now_tall v_kept_rows v_kept_cols v_kept_high v_kept_wide v_kept_folds v_kept_wrong v_kept_more v_kept_rowOf v_kept_colOf v_kept_below v_kept_face v_kept_worn v_kept_last v_kept_bend v_kept_tall v_wearing_size v_wearing_stepCount v_wearing_draftCount v_wearing_place v_wearing_fault v_wearing_stacked v_wearing_tape v_wearing_steps v_wearing_draft v_wearing_stack v_planned_size v_planned_trial_rows v_planned_trial_cols v_planned_trial_high v_planned_trial_wide v_planned_trial_folds v_planned_trial_wrong v_planned_trial_more v_planned_trial_rowOf v_planned_trial_colOf v_planned_trial_below v_planned_trial_face v_planned_trial_worn v_planned_trial_last v_planned_trial_bend v_planned_trial_tall v_planned_lines v_planned_ways v_search_found v_search_wrong v_search_more v_search_folds v_search_wanted v_search_levels0_rows v_search_levels0_cols v_search_levels0_high v_search_levels0_wide v_search_levels0_folds v_search_levels0_wrong v_search_levels0_more v_search_levels0_rowOf v_search_levels0_colOf v_search_levels0_below v_search_levels0_face v_search_levels0_worn v_search_levels0_last v_search_levels0_bend v_search_levels0_tall v_search_levels1_rows v_search_levels1_cols v_search_levels1_high v_search_levels1_wide v_search_levels1_folds v_search_levels1_wrong v_search_levels1_more v_search_levels1_rowOf v_search_levels1_colOf v_search_levels1_below v_search_levels1_face v_search_levels1_worn v_search_levels1_last v_search_levels1_bend v_search_levels1_tall v_search_levels2_rows v_search_levels2_cols v_search_levels2_high v_search_levels2_wide v_search_levels2_folds v_search_levels2_wrong v_search_levels2_more v_search_levels2_rowOf v_search_levels2_colOf v_search_levels2_below v_search_levels2_face v_search_levels2_worn v_search_levels2_last v_search_levels2_bend v_search_levels2_tall v_search_levels3_rows v_search_levels3_cols v_search_levels3_high v_search_levels3_wide v_search_levels3_folds v_search_levels3_wrong v_search_levels3_more v_search_levels3_rowOf v_search_levels3_colOf v_search_levels3_below v_search_levels3_face v_search_levels3_worn v_search_levels3_last v_search_levels3_bend v_search_levels3_tall v_search_path v_search_best v_strip_list v_strip_found v_strip_at v_changes_value v_changes_done v_changes_size v_changes_before v_changes_after v_foldings_size v_foldings_ran v_foldings_number v_foldings_kinds v_foldings_trace v_shelves0_holds v_shelves0_body v_shelves0_sort v_shelves0_size v_shelves0_items v_shelves1_holds v_shelves1_body v_shelves1_sort v_shelves1_size v_shelves1_items v_shelves2_holds v_shelves2_body v_shelves2_sort v_shelves2_size v_shelves2_items v_shelves3_holds v_shelves3_body v_shelves3_sort v_shelves3_size v_shelves3_items v_shelves4_holds v_shelves4_body v_shelves4_sort v_shelves4_size v_shelves4_items v_shelves5_holds v_shelves5_body v_shelves5_sort v_shelves5_size v_shelves5_items)) (rest := []) C0 lk_X8_303 (ctX6_hasPart (a := (fun k => a (k + 87))) (d := d - 1) (by omega) hc_383) (by omega) rfl hl.1 rfl (mm_cat rfl) dX8_shift_107 hP hD hA hS rfl rfl [false, false, false, false, false, false, false, false, false, false, false, false, false, false, false, false, false, false, false, false, false, false, false, false, false, false, false, false, false, false, false, false, false, false, false, false, false, false, false, false, false, false, false, false, false, false, false, false, false, false, false, false, false, false, false, false, false, false, false, false, false, false, false, false, false, false, false, false, false, false, false, false, false, false, false, false, false, false, false, false, false, false, false, false, false, false, false, true, true, false, false, false, false, false, false, false, false, false, false] rfl rfl rfl rfl (fun H locs hP hD hS => ?_)
                                refine W.eq (g2 := F0 m 110 ls [.int (mm_b r_382)]) rfl ?_
                                refine lv_if_ne (tgt := 116) hx hb dX8_shift_110 (by decide) (fun c_384 => ?_) (fun c_384 => ?_)
                                · have hf := mm_in hf (mm_b1 c_384)
                                  refine lv_aload hx hb dX8_shift_116 (lv_at hl 1 rfl) ?_
                                  refine mm_get C0 hP iw_X6 95 rfl rfl 4 (by decide) fl_X8_299 rfl dX8_shift_118 ?_
                                  refine lv_iload_n hx hb dX8_shift_121 rfl (lv_at hl 4 rfl) ?_
                                  refine lv_aload hx hb dX8_shift_122 (lv_at hl 0 rfl) ?_
                                  refine mm_get C0 hP iw_X6 87 rfl rfl 4 (by decide) fl_X8_299 rfl dX8_shift_124 ?_
                                  refine lv_iload hx hb dX8_shift_127 (lv_at hl 6 rfl) ?_
                                  refine lv_iload hx hb dX8_shift_129 (lv_at hl 7 rfl) ?_
                                  obtain ⟨h_385, hf⟩ := mm_cks hf
                                  refine mm_copyl C0 la_X8_306 hP hD hS 96 88 rfl rfl h_385 hl.1 (by omega) (mm_cat rfl) dX8_shift_131 (w2 := (wd_X8 cI cL cS cH a v_hasImage v_now_rows v_now_cols v_now_high v_now_wide v_now_folds v_now_wrong v_now_more v_now_rowOf v_now_colOf v_now_below v_now_face v_now_worn v_now_last v_now_bend v_now_tall v_kept_rows v_kept_cols v_kept_high v_kept_wide v_kept_folds v_kept_wrong v_kept_more v_kept_rowOf v_kept_colOf v_kept_below v_kept_face v_kept_worn v_kept_last v_kept_bend v_kept_tall v_wearing_size v_wearing_stepCount v_wearing_draftCount v_wearing_place v_wearing_fault v_wearing_stacked v_wearing_tape v_wearing_steps v_wearing_draft v_wearing_stack v_planned_size v_planned_trial_rows v_planned_trial_cols v_planned_trial_high v_planned_trial_wide v_planned_trial_folds v_planned_trial_wrong v_planned_trial_more v_planned_trial_rowOf v_planned_trial_colOf v_planned_trial_below v_planned_trial_face v_planned_trial_worn v_planned_trial_last v_planned_trial_bend v_planned_trial_tall v_planned_lines v_planned_ways v_search_found v_search_wrong v_search_more v_search_folds v_search_wanted v_search_levels0_rows v_search_levels0_cols v_search_levels0_high v_search_levels0_wide v_search_levels0_folds v_search_levels0_wrong v_search_levels0_more v_search_levels0_rowOf v_search_levels0_colOf v_search_levels0_below v_search_levels0_face v_search_levels0_worn v_search_levels0_last v_search_levels0_bend v_search_levels0_tall v_search_levels1_rows v_search_levels1_cols v_search_levels1_high v_search_levels1_wide v_search_levels1_folds v_search_levels1_wrong v_search_levels1_more v_search_levels1_rowOf v_search_levels1_colOf v_search_levels1_below v_search_levels1_face v_search_levels1_worn v_search_levels1_last v_search_levels1_bend v_search_levels1_tall v_search_levels2_rows v_search_levels2_cols v_search_levels2_high v_search_levels2_wide v_search_levels2_folds v_search_levels2_wrong v_search_levels2_more v_search_levels2_rowOf v_search_levels2_colOf v_search_levels2_below v_search_levels2_face v_search_levels2_worn v_search_levels2_last v_search_levels2_bend v_search_levels2_tall v_search_levels3_rows v_search_levels3_cols v_search_levels3_high v_search_levels3_wide v_search_levels3_folds v_search_levels3_wrong v_search_levels3_more v_search_levels3_rowOf v_search_levels3_colOf v_search_levels3_below v_search_levels3_face v_search_levels3_worn v_search_levels3_last v_search_levels3_bend v_search_levels3_tall v_search_path v_search_best v_strip_list v_strip_found v_strip_at v_changes_value v_changes_done v_changes_size v_changes_before v_changes_after v_foldings_size v_foldings_ran v_foldings_number v_foldings_kinds v_foldings_trace v_shelves0_holds v_shelves0_body v_shelves0_sort v_shelves0_size (mm_cp v_shelves4_items v_shelves0_items x2 x4 x5) v_shelves1_holds v_shelves1_body v_shelves1_sort v_shelves1_size v_shelves1_items v_shelves2_holds v_shelves2_body v_shelves2_sort v_shelves2_size v_shelves2_items v_shelves3_holds v_shelves3_body v_shelves3_sort v_shelves3_size v_shelves3_items v_shelves4_holds v_shelves4_body v_shelves4_sort v_shelves4_size v_shelves4_items v_shelves5_holds v_shelves5_body v_shelves5_sort v_shelves5_size v_shelves5_items)) rfl (fun H locs hP hD hS => ?_)
                                  generalize el_386 : (mm_cp v_shelves4_items v_shelves0_items x2 x4 x5) = l_386 at hP hD
                                  have hf := mm_nms hf el_386.symm
                                  refine lv_iload hx hb dX8_shift_134 (lv_at hl 7 rfl) ?_
                                  apply mm_sub7 hf
                                  exact mm_iret C0 hP hD hS dX8_shift_136
                                · have hf := mm_ip hf (mm_b0 c_384)
                                  refine lv_bipush (v := -13) hx hb dX8_shift_113 (by decide) ?_
                                  apply mm_sub7 hf
                                  exact mm_iret C0 hP hD hS dX8_shift_115
                          · have hf := mm_in hf c_377
                            refine lv_bipush (v := -12) hx hb dX8_shift_82 (by decide) ?_
                            apply mm_sub7 hf
                            exact mm_iret C0 hP hD hS dX8_shift_84
                    · have hf := mm_ip hf c_374
                      refine lv_bipush (v := -11) hx hb dX8_shift_48 (by decide) ?_
                      apply mm_sub7 hf
                      exact mm_iret C0 hP hD hS dX8_shift_50
                · have hf := mm_in hf c_372
                  by_cases c_387 : x3 = (1 : Int32)
                  · have hf := mm_ip hf c_387
                    refine mm_aald 3 rfl C0 hP 86 rfl (b := a 89) (by rw [c_387]; rfl) (by rw [c_387]; rfl) dX8_shift_29 ?_
                    refine lv_astore (lv' := [(7, .ref (a 89)), (6, .ref (a 95)), (0, .ref (a 0)), (1, .int x1), (2, .int x2), (3, .int x3), (4, .int x4), (5, .int x5)]) hx hb dX8_shift_30 hl (by decide) rfl (fun ls hl => ?_)
                    refine lv_aload hx hb dX8_shift_32 (lv_at hl 1 rfl) ?_
                    refine mm_get C0 hP iw_X6 95 rfl rfl 0 (by decide) fl_X8_168 rfl dX8_shift_34 ?_
                    refine lv_if_eq (tgt := 48) hx hb dX8_shift_37 (by decide) (fun c_388 => ?_) (fun c_388 => ?_)
                    · have hf := mm_ip hf c_388
                      refine lv_bipush (v := -11) hx hb dX8_shift_48 (by decide) ?_
                      apply mm_sub7 hf
                      exact mm_iret C0 hP hD hS dX8_shift_50
                    · have hf := mm_in hf c_388
                      refine lv_aload hx hb dX8_shift_40 (lv_at hl 0 rfl) ?_
                      refine mm_get C0 hP iw_X6 89 rfl rfl 0 (by decide) fl_X8_168 rfl dX8_shift_42 ?_
                      refine lv_if_ne (tgt := 51) hx hb dX8_shift_45 (by decide) (fun c_389 => ?_) (fun c_389 => ?_)
                      · have hf := mm_in hf c_389
                        refine lv_aload hx hb dX8_shift_51 (lv_at hl 1 rfl) ?_
                        refine mm_get C0 hP iw_X6 95 rfl rfl 0 (by decide) fl_X8_168 rfl dX8_shift_53 ?_
                        refine lv_iconst (v := 2) hx hb dX8_shift_56 (by decide) ?_
                        refine lv_icmp_ne (tgt := 82) hx hb dX8_shift_57 (by decide) (fun c_390 => ?_) (fun c_390 => ?_)
                        · have hf := mm_in hf c_390
                          refine lv_bipush (v := -12) hx hb dX8_shift_82 (by decide) ?_
                          apply mm_sub7 hf
                          exact mm_iret C0 hP hD hS dX8_shift_84
                        · have hf := mm_ip hf c_390
                          refine lv_aload hx hb dX8_shift_60 (lv_at hl 0 rfl) ?_
                          refine mm_get C0 hP iw_X6 89 rfl rfl 0 (by decide) fl_X8_168 rfl dX8_shift_62 ?_
                          refine lv_iconst (v := 2) hx hb dX8_shift_65 (by decide) ?_
                          refine lv_icmp_ne (tgt := 82) hx hb dX8_shift_66 (by decide) (fun c_391 => ?_) (fun c_391 => ?_)
                          · have hf := mm_in hf c_391
                            refine lv_bipush (v := -12) hx hb dX8_shift_82 (by decide) ?_
                            apply mm_sub7 hf
                            exact mm_iret C0 hP hD hS dX8_shift_84
                          · have hf := mm_ip hf c_391
                            refine lv_aload hx hb dX8_shift_69 (lv_at hl 1 rfl) ?_
                            refine mm_get C0 hP iw_X6 95 rfl rfl 2 (by decide) fl_X8_171 rfl dX8_shift_71 ?_
                            refine lv_aload hx hb dX8_shift_74 (lv_at hl 0 rfl) ?_
                            refine mm_get C0 hP iw_X6 89 rfl rfl 2 (by decide) fl_X8_171 rfl dX8_shift_76 ?_
                            refine lv_icmp_eq (tgt := 85) hx hb dX8_shift_79 (by decide) (fun c_392 => ?_) (fun c_392 => ?_)
                            · have hf := mm_ip hf c_392
                              refine lv_iload hx hb dX8_shift_85 (lv_at hl 7 rfl) ?_
                              refine lv_if_lt (tgt := 113) hx hb dX8_shift_87 (by decide) (fun c_393 => ?_) (fun c_393 => ?_)
                              · have hf := mm_ip hf c_393
                                refine lv_bipush (v := -13) hx hb dX8_shift_113 (by decide) ?_
                                apply mm_sub7 hf
                                exact mm_iret C0 hP hD hS dX8_shift_115
                              · have hf := mm_in hf c_393
                                refine lv_aload hx hb dX8_shift_90 (lv_at hl 1 rfl) ?_
                                refine lv_iload_n hx hb dX8_shift_92 rfl (lv_at hl 4 rfl) ?_
                                refine lv_iload hx hb dX8_shift_93 (lv_at hl 7 rfl) ?_
                                obtain ⟨r_394, hc_395, hf⟩ := mm_bd1s hf
                                refine mm_callW (q0 := 95) (ci := 6) (w2 := (wd_X8 cI cL cS cH a v_hasImage v_now_rows v_now_cols v_now_high v_now_wide v_now_folds v_now_wrong v_now_more v_now_rowOf v_now_colOf v_now_below v_now_face v_now_worn v_now_last v_now_bend v_now_tall v_kept_rows v_kept_cols v_kept_high v_kept_wide v_kept_folds v_kept_wrong v_kept_more v_kept_rowOf v_kept_colOf v_kept_below v_kept_face v_kept_worn v_kept_last v_kept_bend v_kept_tall v_wearing_size v_wearing_stepCount v_wearing_draftCount v_wearing_place v_wearing_fault v_wearing_stacked v_wearing_tape v_wearing_steps v_wearing_draft v_wearing_stack v_planned_size v_planned_trial_rows v_planned_trial_cols v_planned_trial_high v_planned_trial_wide v_planned_trial_folds v_planned_trial_wrong v_planned_trial_more v_planned_trial_rowOf v_planned_trial_colOf v_planned_trial_below v_planned_trial_face v_planned_trial_worn v_planned_trial_last v_planned_trial_bend v_planned_trial_tall v_planned_lines v_planned_ways v_search_found v_search_wrong v_search_more v_search_folds v_search_wanted v_search_levels0_rows v_search_levels0_cols v_search_levels0_high v_search_levels0_wide v_search_levels0_folds v_search_levels0_wrong v_search_levels0_more v_search_levels0_rowOf v_search_levels0_colOf v_search_levels0_below v_search_levels0_face v_search_levels0_worn v_search_levels0_last v_search_levels0_bend v_search_levels0_tall v_search_levels1_rows v_search_levels1_cols v_search_levels1_high v_search_levels1_wide v_search_levels1_folds v_search_levels1_wrong v_search_levels1_more v_search_levels1_rowOf v_search_levels1_colOf v_search_levels1_below v_search_levels1_face v_search_levels1_worn v_search_levels1_last v_search_levels1_bend v_search_levels1_tall v_search_levels2_rows v_search_levels2_cols v_search_levels2_high v_search_levels2_wide v_search_levels2_folds v_search_levels2_wrong v_search_levels2_more v_search_levels2_rowOf v_search_levels2_colOf v_search_levels2_below v_search_levels2_face v_search_levels2_worn v_search_levels2_last v_search_levels2_bend v_search_levels2_tall v_search_levels3_rows v_search_levels3_cols v_search_levels3_high v_search_levels3_wide v_search_levels3_folds v_search_levels3_wrong v_search_levels3_more v_search_levels3_rowOf v_search_levels3_colOf v_search_levels3_below v_search_levels3_face v_search_levels3_worn v_search_levels3_last v_search_levels3_bend v_search_levels3_tall v_search_path v_search_best v_strip_list v_strip_found v_strip_at v_changes_value v_changes_done v_changes_size v_changes_before v_changes_after v_foldings_size v_foldings_ran v_foldings_number v_foldings_kinds v_foldings_trace v_shelves0_holds v_shelves0_body v_shelves0_sort v_shelves0_size v_shelves0_items v_shelves1_holds v_shelves1_body v_shelves1_sort v_shelves1_size v_shelves1_items v_shelves2_holds v_shelves2_body v_shelves2_sort v_shelves2_size v_shelves2_items v_shelves3_holds v_shelves3_body v_shelves3_sort v_shelves3_size v_shelves3_items v_shelves4_holds v_shelves4_body v_shelves4_sort v_shelves4_size v_shelves4_items v_shelves5_holds v_shelves5_body v_shelves5_sort v_shelves5_size v_shelves5_items)) (rest := []) C0 lk_X8_303 (ctX6_hasPart (a := (fun k => a (k + 95))) (d := d - 1) (by omega) hc_395) (by omega) rfl hl.1 rfl (mm_cat rfl) dX8_shift_95 hP hD hA hS rfl rfl [false, false, false, false, false, false, false, false, false, false, false, false, false, false, false, false, false, false, false, false, false, false, false, false, false, false, false, false, false, false, false, false, false, false, false, false, false, false, false, false, false, false, false, false, false, false, false, false, false, false, false, false, false, false, false, false, false, false, false, false, false, false, false, false, false, false, false, false, false, false, false, false, false, false, false, false, false, false, false, false, false, false, false, false, false, false, false, false, false, false, false, false, false, false, false, true, true, false, false] rfl rfl rfl rfl (fun H locs hP hD hS => ?_)
                                refine W.eq (g2 := F0 m 98 ls [.int (mm_b r_394)]) rfl ?_
                                refine lv_if_eq (tgt := 113) hx hb dX8_shift_98 (by decide) (fun c_396 => ?_) (fun c_396 => ?_)
                                · have hf := mm_ip hf (mm_b0 c_396)
                                  refine lv_bipush (v := -13) hx hb dX8_shift_113 (by decide) ?_
                                  apply mm_sub7 hf
                                  exact mm_iret C0 hP hD hS dX8_shift_115
                                · have hf := mm_in hf (mm_b1 c_396)
                                  refine lv_aload hx hb dX8_shift_101 (lv_at hl 0 rfl) ?_
                                  refine lv_iload hx hb dX8_shift_103 (lv_at hl 6 rfl) ?_
                                  refine lv_iload hx hb dX8_shift_105 (lv_at hl 7 rfl) ?_
                                  obtain ⟨r_397, hc_398, hf⟩ := mm_bd1s hf
                                  refine mm_callW (q0 := 89) (ci := 6) (w2 := (wd_X8 cI cL cS cH a v_hasImage v_now_rows v_now_cols v_now_high v_now_wide v_now_folds v_now_wrong v_now_more v_now_rowOf v_now_colOf v_now_below v_now_face v_now_worn v_now_last v_now_bend v_now_tall v_kept_rows v_kept_cols v_kept_high v_kept_wide v_kept_folds v_kept_wrong v_kept_more v_kept_rowOf v_kept_colOf v_kept_below v_kept_face v_kept_worn v_kept_last v_kept_bend v_kept_tall v_wearing_size v_wearing_stepCount v_wearing_draftCount v_wearing_place v_wearing_fault v_wearing_stacked v_wearing_tape v_wearing_steps v_wearing_draft v_wearing_stack v_planned_size v_planned_trial_rows v_planned_trial_cols v_planned_trial_high v_planned_trial_wide v_planned_trial_folds v_planned_trial_wrong v_planned_trial_more v_planned_trial_rowOf v_planned_trial_colOf v_planned_trial_below v_planned_trial_face v_planned_trial_worn v_planned_trial_last v_planned_trial_bend v_planned_trial_tall v_planned_lines v_planned_ways v_search_found v_search_wrong v_search_more v_search_folds v_search_wanted v_search_levels0_rows v_search_levels0_cols v_search_levels0_high v_search_levels0_wide v_search_levels0_folds v_search_levels0_wrong v_search_levels0_more v_search_levels0_rowOf v_search_levels0_colOf v_search_levels0_below v_search_levels0_face v_search_levels0_worn v_search_levels0_last v_search_levels0_bend v_search_levels0_tall v_search_levels1_rows v_search_levels1_cols v_search_levels1_high v_search_levels1_wide v_search_levels1_folds v_search_levels1_wrong v_search_levels1_more v_search_levels1_rowOf v_search_levels1_colOf v_search_levels1_below v_search_levels1_face v_search_levels1_worn v_search_levels1_last v_search_levels1_bend v_search_levels1_tall v_search_levels2_rows v_search_levels2_cols v_search_levels2_high v_search_levels2_wide v_search_levels2_folds v_search_levels2_wrong v_search_levels2_more v_search_levels2_rowOf v_search_levels2_colOf v_search_levels2_below v_search_levels2_face v_search_levels2_worn v_search_levels2_last v_search_levels2_bend v_search_levels2_tall v_search_levels3_rows v_search_levels3_cols v_search_levels3_high v_search_levels3_wide v_search_levels3_folds v_search_levels3_wrong v_search_levels3_more v_search_levels3_rowOf v_search_levels3_colOf v_search_levels3_below v_search_levels3_face v_search_levels3_worn v_search_levels3_last v_search_levels3_bend v_search_levels3_tall v_search_path v_search_best v_strip_list v_strip_found v_strip_at v_changes_value v_changes_done v_changes_size v_changes_before v_changes_after v_foldings_size v_foldings_ran v_foldings_number v_foldings_kinds v_foldings_trace v_shelves0_holds v_shelves0_body v_shelves0_sort v_shelves0_size v_shelves0_items v_shelves1_holds v_shelves1_body v_shelves1_sort v_shelves1_size v_shelves1_items v_shelves2_holds v_shelves2_body v_shelves2_sort v_shelves2_size v_shelves2_items v_shelves3_holds v_shelves3_body v_shelves3_sort v_shelves3_size v_shelves3_items v_shelves4_holds v_shelves4_body v_shelves4_sort v_shelves4_size v_shelves4_items v_shelves5_holds v_shelves5_body v_shelves5_sort v_shelves5_size v_shelves5_items)) (rest := []) C0 lk_X8_303 (ctX6_hasPart (a := (fun k => a (k + 89))) (d := d - 1) (by omega) hc_398) (by omega) rfl hl.1 rfl (mm_cat rfl) dX8_shift_107 hP hD hA hS rfl rfl [false, false, false, false, false, false, false, false, false, false, false, false, false, false, false, false, false, false, false, false, false, false, false, false, false, false, false, false, false, false, false, false, false, false, false, false, false, false, false, false, false, false, false, false, false, false, false, false, false, false, false, false, false, false, false, false, false, false, false, false, false, false, false, false, false, false, false, false, false, false, false, false, false, false, false, false, false, false, false, false, false, false, false, false, false, false, false, false, false, true, true, false, false, false, false, false, false, false, false] rfl rfl rfl rfl (fun H locs hP hD hS => ?_)
                                  refine W.eq (g2 := F0 m 110 ls [.int (mm_b r_397)]) rfl ?_
                                  refine lv_if_ne (tgt := 116) hx hb dX8_shift_110 (by decide) (fun c_399 => ?_) (fun c_399 => ?_)
                                  · have hf := mm_in hf (mm_b1 c_399)
                                    refine lv_aload hx hb dX8_shift_116 (lv_at hl 1 rfl) ?_
                                    refine mm_get C0 hP iw_X6 95 rfl rfl 4 (by decide) fl_X8_299 rfl dX8_shift_118 ?_
                                    refine lv_iload_n hx hb dX8_shift_121 rfl (lv_at hl 4 rfl) ?_
                                    refine lv_aload hx hb dX8_shift_122 (lv_at hl 0 rfl) ?_
                                    refine mm_get C0 hP iw_X6 89 rfl rfl 4 (by decide) fl_X8_299 rfl dX8_shift_124 ?_
                                    refine lv_iload hx hb dX8_shift_127 (lv_at hl 6 rfl) ?_
                                    refine lv_iload hx hb dX8_shift_129 (lv_at hl 7 rfl) ?_
                                    obtain ⟨h_400, hf⟩ := mm_cks hf
                                    refine mm_copyl C0 la_X8_306 hP hD hS 96 90 rfl rfl h_400 hl.1 (by omega) (mm_cat rfl) dX8_shift_131 (w2 := (wd_X8 cI cL cS cH a v_hasImage v_now_rows v_now_cols v_now_high v_now_wide v_now_folds v_now_wrong v_now_more v_now_rowOf v_now_colOf v_now_below v_now_face v_now_worn v_now_last v_now_bend v_now_tall v_kept_rows v_kept_cols v_kept_high v_kept_wide v_kept_folds v_kept_wrong v_kept_more v_kept_rowOf v_kept_colOf v_kept_below v_kept_face v_kept_worn v_kept_last v_kept_bend v_kept_tall v_wearing_size v_wearing_stepCount v_wearing_draftCount v_wearing_place v_wearing_fault v_wearing_stacked v_wearing_tape v_wearing_steps v_wearing_draft v_wearing_stack v_planned_size v_planned_trial_rows v_planned_trial_cols v_planned_trial_high v_planned_trial_wide v_planned_trial_folds v_planned_trial_wrong v_planned_trial_more v_planned_trial_rowOf v_planned_trial_colOf v_planned_trial_below v_planned_trial_face v_planned_trial_worn v_planned_trial_last v_planned_trial_bend v_planned_trial_tall v_planned_lines v_planned_ways v_search_found v_search_wrong v_search_more v_search_folds v_search_wanted v_search_levels0_rows v_search_levels0_cols v_search_levels0_high v_search_levels0_wide v_search_levels0_folds v_search_levels0_wrong v_search_levels0_more v_search_levels0_rowOf v_search_levels0_colOf v_search_levels0_below v_search_levels0_face v_search_levels0_worn v_search_levels0_last v_search_levels0_bend v_search_levels0_tall v_search_levels1_rows v_search_levels1_cols v_search_levels1_high v_search_levels1_wide v_search_levels1_folds v_search_levels1_wrong v_search_levels1_more v_search_levels1_rowOf v_search_levels1_colOf v_search_levels1_below v_search_levels1_face v_search_levels1_worn v_search_levels1_last v_search_levels1_bend v_search_levels1_tall v_search_levels2_rows v_search_levels2_cols v_search_levels2_high v_search_levels2_wide v_search_levels2_folds v_search_levels2_wrong v_search_levels2_more v_search_levels2_rowOf v_search_levels2_colOf v_search_levels2_below v_search_levels2_face v_search_levels2_worn v_search_levels2_last v_search_levels2_bend v_search_levels2_tall v_search_levels3_rows v_search_levels3_cols v_search_levels3_high v_search_levels3_wide v_search_levels3_folds v_search_levels3_wrong v_search_levels3_more v_search_levels3_rowOf v_search_levels3_colOf v_search_levels3_below v_search_levels3_face v_search_levels3_worn v_search_levels3_last v_search_levels3_bend v_search_levels3_tall v_search_path v_search_best v_strip_list v_strip_found v_strip_at v_changes_value v_changes_done v_changes_size v_changes_before v_changes_after v_foldings_size v_foldings_ran v_foldings_number v_foldings_kinds v_foldings_trace v_shelves0_holds v_shelves0_body v_shelves0_sort v_shelves0_size v_shelves0_items v_shelves1_holds v_shelves1_body v_shelves1_sort v_shelves1_size (mm_cp v_shelves4_items v_shelves1_items x2 x4 x5) v_shelves2_holds v_shelves2_body v_shelves2_sort v_shelves2_size v_shelves2_items v_shelves3_holds v_shelves3_body v_shelves3_sort v_shelves3_size v_shelves3_items v_shelves4_holds v_shelves4_body v_shelves4_sort v_shelves4_size v_shelves4_items v_shelves5_holds v_shelves5_body v_shelves5_sort v_shelves5_size v_shelves5_items)) rfl (fun H locs hP hD hS => ?_)
                                    generalize el_401 : (mm_cp v_shelves4_items v_shelves1_items x2 x4 x5) = l_401 at hP hD
                                    have hf := mm_nms hf el_401.symm
                                    refine lv_iload hx hb dX8_shift_134 (lv_at hl 7 rfl) ?_
                                    apply mm_sub7 hf
                                    exact mm_iret C0 hP hD hS dX8_shift_136
                                  · have hf := mm_ip hf (mm_b0 c_399)
                                    refine lv_bipush (v := -13) hx hb dX8_shift_113 (by decide) ?_
                                    apply mm_sub7 hf
                                    exact mm_iret C0 hP hD hS dX8_shift_115
                            · have hf := mm_in hf c_392
                              refine lv_bipush (v := -12) hx hb dX8_shift_82 (by decide) ?_
                              apply mm_sub7 hf
                              exact mm_iret C0 hP hD hS dX8_shift_84
                      · have hf := mm_ip hf c_389
                        refine lv_bipush (v := -11) hx hb dX8_shift_48 (by decide) ?_
                        apply mm_sub7 hf
                        exact mm_iret C0 hP hD hS dX8_shift_50
                  · have hf := mm_in hf c_387
                    by_cases c_402 : x3 = (2 : Int32)
                    · have hf := mm_ip hf c_402
                      refine mm_aald 3 rfl C0 hP 86 rfl (b := a 91) (by rw [c_402]; rfl) (by rw [c_402]; rfl) dX8_shift_29 ?_
                      refine lv_astore (lv' := [(7, .ref (a 91)), (6, .ref (a 95)), (0, .ref (a 0)), (1, .int x1), (2, .int x2), (3, .int x3), (4, .int x4), (5, .int x5)]) hx hb dX8_shift_30 hl (by decide) rfl (fun ls hl => ?_)
                      refine lv_aload hx hb dX8_shift_32 (lv_at hl 1 rfl) ?_
                      refine mm_get C0 hP iw_X6 95 rfl rfl 0 (by decide) fl_X8_168 rfl dX8_shift_34 ?_
                      refine lv_if_eq (tgt := 48) hx hb dX8_shift_37 (by decide) (fun c_403 => ?_) (fun c_403 => ?_)
                      · have hf := mm_ip hf c_403
                        refine lv_bipush (v := -11) hx hb dX8_shift_48 (by decide) ?_
                        apply mm_sub7 hf
                        exact mm_iret C0 hP hD hS dX8_shift_50
                      · have hf := mm_in hf c_403
                        refine lv_aload hx hb dX8_shift_40 (lv_at hl 0 rfl) ?_
                        refine mm_get C0 hP iw_X6 91 rfl rfl 0 (by decide) fl_X8_168 rfl dX8_shift_42 ?_
                        refine lv_if_ne (tgt := 51) hx hb dX8_shift_45 (by decide) (fun c_404 => ?_) (fun c_404 => ?_)
                        · have hf := mm_in hf c_404
                          refine lv_aload hx hb dX8_shift_51 (lv_at hl 1 rfl) ?_
                          refine mm_get C0 hP iw_X6 95 rfl rfl 0 (by decide) fl_X8_168 rfl dX8_shift_53 ?_
                          refine lv_iconst (v := 2) hx hb dX8_shift_56 (by decide) ?_
                          refine lv_icmp_ne (tgt := 82) hx hb dX8_shift_57 (by decide) (fun c_405 => ?_) (fun c_405 => ?_)
                          · have hf := mm_in hf c_405
                            refine lv_bipush (v := -12) hx hb dX8_shift_82 (by decide) ?_
                            apply mm_sub7 hf
                            exact mm_iret C0 hP hD hS dX8_shift_84
                          · have hf := mm_ip hf c_405
                            refine lv_aload hx hb dX8_shift_60 (lv_at hl 0 rfl) ?_
                            refine mm_get C0 hP iw_X6 91 rfl rfl 0 (by decide) fl_X8_168 rfl dX8_shift_62 ?_
                            refine lv_iconst (v := 2) hx hb dX8_shift_65 (by decide) ?_
                            refine lv_icmp_ne (tgt := 82) hx hb dX8_shift_66 (by decide) (fun c_406 => ?_) (fun c_406 => ?_)
                            · have hf := mm_in hf c_406
                              refine lv_bipush (v := -12) hx hb dX8_shift_82 (by decide) ?_
                              apply mm_sub7 hf
                              exact mm_iret C0 hP hD hS dX8_shift_84
                            · have hf := mm_ip hf c_406
                              refine lv_aload hx hb dX8_shift_69 (lv_at hl 1 rfl) ?_
                              refine mm_get C0 hP iw_X6 95 rfl rfl 2 (by decide) fl_X8_171 rfl dX8_shift_71 ?_
                              refine lv_aload hx hb dX8_shift_74 (lv_at hl 0 rfl) ?_
                              refine mm_get C0 hP iw_X6 91 rfl rfl 2 (by decide) fl_X8_171 rfl dX8_shift_76 ?_
                              refine lv_icmp_eq (tgt := 85) hx hb dX8_shift_79 (by decide) (fun c_407 => ?_) (fun c_407 => ?_)
                              · have hf := mm_ip hf c_407
                                refine lv_iload hx hb dX8_shift_85 (lv_at hl 7 rfl) ?_
                                refine lv_if_lt (tgt := 113) hx hb dX8_shift_87 (by decide) (fun c_408 => ?_) (fun c_408 => ?_)
                                · have hf := mm_ip hf c_408
                                  refine lv_bipush (v := -13) hx hb dX8_shift_113 (by decide) ?_
                                  apply mm_sub7 hf
                                  exact mm_iret C0 hP hD hS dX8_shift_115
                                · have hf := mm_in hf c_408
                                  refine lv_aload hx hb dX8_shift_90 (lv_at hl 1 rfl) ?_
                                  refine lv_iload_n hx hb dX8_shift_92 rfl (lv_at hl 4 rfl) ?_
                                  refine lv_iload hx hb dX8_shift_93 (lv_at hl 7 rfl) ?_
                                  obtain ⟨r_409, hc_410, hf⟩ := mm_bd1s hf
                                  refine mm_callW (q0 := 95) (ci := 6) (w2 := (wd_X8 cI cL cS cH a v_hasImage v_now_rows v_now_cols v_now_high v_now_wide v_now_folds v_now_wrong v_now_more v_now_rowOf v_now_colOf v_now_below v_now_face v_now_worn v_now_last v_now_bend v_now_tall v_kept_rows v_kept_cols v_kept_high v_kept_wide v_kept_folds v_kept_wrong v_kept_more v_kept_rowOf v_kept_colOf v_kept_below v_kept_face v_kept_worn v_kept_last v_kept_bend v_kept_tall v_wearing_size v_wearing_stepCount v_wearing_draftCount v_wearing_place v_wearing_fault v_wearing_stacked v_wearing_tape v_wearing_steps v_wearing_draft v_wearing_stack v_planned_size v_planned_trial_rows v_planned_trial_cols v_planned_trial_high v_planned_trial_wide v_planned_trial_folds v_planned_trial_wrong v_planned_trial_more v_planned_trial_rowOf v_planned_trial_colOf v_planned_trial_below v_planned_trial_face v_planned_trial_worn v_planned_trial_last v_planned_trial_bend v_planned_trial_tall v_planned_lines v_planned_ways v_search_found v_search_wrong v_search_more v_search_folds v_search_wanted v_search_levels0_rows v_search_levels0_cols v_search_levels0_high v_search_levels0_wide v_search_levels0_folds v_search_levels0_wrong v_search_levels0_more v_search_levels0_rowOf v_search_levels0_colOf v_search_levels0_below v_search_levels0_face v_search_levels0_worn v_search_levels0_last v_search_levels0_bend v_search_levels0_tall v_search_levels1_rows v_search_levels1_cols v_search_levels1_high v_search_levels1_wide v_search_levels1_folds v_search_levels1_wrong v_search_levels1_more v_search_levels1_rowOf v_search_levels1_colOf v_search_levels1_below v_search_levels1_face v_search_levels1_worn v_search_levels1_last v_search_levels1_bend v_search_levels1_tall v_search_levels2_rows v_search_levels2_cols v_search_levels2_high v_search_levels2_wide v_search_levels2_folds v_search_levels2_wrong v_search_levels2_more v_search_levels2_rowOf v_search_levels2_colOf v_search_levels2_below v_search_levels2_face v_search_levels2_worn v_search_levels2_last v_search_levels2_bend v_search_levels2_tall v_search_levels3_rows v_search_levels3_cols v_search_levels3_high v_search_levels3_wide v_search_levels3_folds v_search_levels3_wrong v_search_levels3_more v_search_levels3_rowOf v_search_levels3_colOf v_search_levels3_below v_search_levels3_face v_search_levels3_worn v_search_levels3_last v_search_levels3_bend v_search_levels3_tall v_search_path v_search_best v_strip_list v_strip_found v_strip_at v_changes_value v_changes_done v_changes_size v_changes_before v_changes_after v_foldings_size v_foldings_ran v_foldings_number v_foldings_kinds v_foldings_trace v_shelves0_holds v_shelves0_body v_shelves0_sort v_shelves0_size v_shelves0_items v_shelves1_holds v_shelves1_body v_shelves1_sort v_shelves1_size v_shelves1_items v_shelves2_holds v_shelves2_body v_shelves2_sort v_shelves2_size v_shelves2_items v_shelves3_holds v_shelves3_body v_shelves3_sort v_shelves3_size v_shelves3_items v_shelves4_holds v_shelves4_body v_shelves4_sort v_shelves4_size v_shelves4_items v_shelves5_holds v_shelves5_body v_shelves5_sort v_shelves5_size v_shelves5_items)) (rest := []) C0 lk_X8_303 (ctX6_hasPart (a := (fun k => a (k + 95))) (d := d - 1) (by omega) hc_410) (by omega) rfl hl.1 rfl (mm_cat rfl) dX8_shift_95 hP hD hA hS rfl rfl [false, false, false, false, false, false, false, false, false, false, false, false, false, false, false, false, false, false, false, false, false, false, false, false, false, false, false, false, false, false, false, false, false, false, false, false, false, false, false, false, false, false, false, false, false, false, false, false, false, false, false, false, false, false, false, false, false, false, false, false, false, false, false, false, false, false, false, false, false, false, false, false, false, false, false, false, false, false, false, false, false, false, false, false, false, false, false, false, false, false, false, false, false, false, false, true, true, false, false] rfl rfl rfl rfl (fun H locs hP hD hS => ?_)
                                  refine W.eq (g2 := F0 m 98 ls [.int (mm_b r_409)]) rfl ?_
                                  refine lv_if_eq (tgt := 113) hx hb dX8_shift_98 (by decide) (fun c_411 => ?_) (fun c_411 => ?_)
                                  · have hf := mm_ip hf (mm_b0 c_411)
                                    refine lv_bipush (v := -13) hx hb dX8_shift_113 (by decide) ?_
                                    apply mm_sub7 hf
                                    exact mm_iret C0 hP hD hS dX8_shift_115
                                  · have hf := mm_in hf (mm_b1 c_411)
                                    refine lv_aload hx hb dX8_shift_101 (lv_at hl 0 rfl) ?_
                                    refine lv_iload hx hb dX8_shift_103 (lv_at hl 6 rfl) ?_
                                    refine lv_iload hx hb dX8_shift_105 (lv_at hl 7 rfl) ?_
                                    obtain ⟨r_412, hc_413, hf⟩ := mm_bd1s hf
                                    refine mm_callW (q0 := 91) (ci := 6) (w2 := (wd_X8 cI cL cS cH a v_hasImage v_now_rows v_now_cols v_now_high v_now_wide v_now_folds v_now_wrong v_now_more v_now_rowOf v_now_colOf v_now_below v_now_face v_now_worn v_now_last v_now_bend v_now_tall v_kept_rows v_kept_cols v_kept_high v_kept_wide v_kept_folds v_kept_wrong v_kept_more v_kept_rowOf v_kept_colOf v_kept_below v_kept_face v_kept_worn v_kept_last v_kept_bend v_kept_tall v_wearing_size v_wearing_stepCount v_wearing_draftCount v_wearing_place v_wearing_fault v_wearing_stacked v_wearing_tape v_wearing_steps v_wearing_draft v_wearing_stack v_planned_size v_planned_trial_rows v_planned_trial_cols v_planned_trial_high v_planned_trial_wide v_planned_trial_folds v_planned_trial_wrong v_planned_trial_more v_planned_trial_rowOf v_planned_trial_colOf v_planned_trial_below v_planned_trial_face v_planned_trial_worn v_planned_trial_last v_planned_trial_bend v_planned_trial_tall v_planned_lines v_planned_ways v_search_found v_search_wrong v_search_more v_search_folds v_search_wanted v_search_levels0_rows v_search_levels0_cols v_search_levels0_high v_search_levels0_wide v_search_levels0_folds v_search_levels0_wrong v_search_levels0_more v_search_levels0_rowOf v_search_levels0_colOf v_search_levels0_below v_search_levels0_face v_search_levels0_worn v_search_levels0_last v_search_levels0_bend v_search_levels0_tall v_search_levels1_rows v_search_levels1_cols v_search_levels1_high v_search_levels1_wide v_search_levels1_folds v_search_levels1_wrong v_search_levels1_more v_search_levels1_rowOf v_search_levels1_colOf v_search_levels1_below v_search_levels1_face v_search_levels1_worn v_search_levels1_last v_search_levels1_bend v_search_levels1_tall v_search_levels2_rows v_search_levels2_cols v_search_levels2_high v_search_levels2_wide v_search_levels2_folds v_search_levels2_wrong v_search_levels2_more v_search_levels2_rowOf v_search_levels2_colOf v_search_levels2_below v_search_levels2_face v_search_levels2_worn v_search_levels2_last v_search_levels2_bend v_search_levels2_tall v_search_levels3_rows v_search_levels3_cols v_search_levels3_high v_search_levels3_wide v_search_levels3_folds v_search_levels3_wrong v_search_levels3_more v_search_levels3_rowOf v_search_levels3_colOf v_search_levels3_below v_search_levels3_face v_search_levels3_worn v_search_levels3_last v_search_levels3_bend v_search_levels3_tall v_search_path v_search_best v_strip_list v_strip_found v_strip_at v_changes_value v_changes_done v_changes_size v_changes_before v_changes_after v_foldings_size v_foldings_ran v_foldings_number v_foldings_kinds v_foldings_trace v_shelves0_holds v_shelves0_body v_shelves0_sort v_shelves0_size v_shelves0_items v_shelves1_holds v_shelves1_body v_shelves1_sort v_shelves1_size v_shelves1_items v_shelves2_holds v_shelves2_body v_shelves2_sort v_shelves2_size v_shelves2_items v_shelves3_holds v_shelves3_body v_shelves3_sort v_shelves3_size v_shelves3_items v_shelves4_holds v_shelves4_body v_shelves4_sort v_shelves4_size v_shelves4_items v_shelves5_holds v_shelves5_body v_shelves5_sort v_shelves5_size v_shelves5_items)) (rest := []) C0 lk_X8_303 (ctX6_hasPart (a := (fun k => a (k + 91))) (d := d - 1) (by omega) hc_413) (by omega) rfl hl.1 rfl (mm_cat rfl) dX8_shift_107 hP hD hA hS rfl rfl [false, false, false, false, false, false, false, false, false, false, false, false, false, false, false, false, false, false, false, false, false, false, false, false, false, false, false, false, false, false, false, false, false, false, false, false, false, false, false, false, false, false, false, false, false, false, false, false, false, false, false, false, false, false, false, false, false, false, false, false, false, false, false, false, false, false, false, false, false, false, false, false, false, false, false, false, false, false, false, false, false, false, false, false, false, false, false, false, false, false, false, true, true, false, false, false, false, false, false] rfl rfl rfl rfl (fun H locs hP hD hS => ?_)
                                    refine W.eq (g2 := F0 m 110 ls [.int (mm_b r_412)]) rfl ?_
                                    refine lv_if_ne (tgt := 116) hx hb dX8_shift_110 (by decide) (fun c_414 => ?_) (fun c_414 => ?_)
                                    · have hf := mm_in hf (mm_b1 c_414)
                                      refine lv_aload hx hb dX8_shift_116 (lv_at hl 1 rfl) ?_
                                      refine mm_get C0 hP iw_X6 95 rfl rfl 4 (by decide) fl_X8_299 rfl dX8_shift_118 ?_
                                      refine lv_iload_n hx hb dX8_shift_121 rfl (lv_at hl 4 rfl) ?_
                                      refine lv_aload hx hb dX8_shift_122 (lv_at hl 0 rfl) ?_
                                      refine mm_get C0 hP iw_X6 91 rfl rfl 4 (by decide) fl_X8_299 rfl dX8_shift_124 ?_
                                      refine lv_iload hx hb dX8_shift_127 (lv_at hl 6 rfl) ?_
                                      refine lv_iload hx hb dX8_shift_129 (lv_at hl 7 rfl) ?_
                                      obtain ⟨h_415, hf⟩ := mm_cks hf
                                      refine mm_copyl C0 la_X8_306 hP hD hS 96 92 rfl rfl h_415 hl.1 (by omega) (mm_cat rfl) dX8_shift_131 (w2 := (wd_X8 cI cL cS cH a v_hasImage v_now_rows v_now_cols v_now_high v_now_wide v_now_folds v_now_wrong v_now_more v_now_rowOf v_now_colOf v_now_below v_now_face v_now_worn v_now_last v_now_bend v_now_tall v_kept_rows v_kept_cols v_kept_high v_kept_wide v_kept_folds v_kept_wrong v_kept_more v_kept_rowOf v_kept_colOf v_kept_below v_kept_face v_kept_worn v_kept_last v_kept_bend v_kept_tall v_wearing_size v_wearing_stepCount v_wearing_draftCount v_wearing_place v_wearing_fault v_wearing_stacked v_wearing_tape v_wearing_steps v_wearing_draft v_wearing_stack v_planned_size v_planned_trial_rows v_planned_trial_cols v_planned_trial_high v_planned_trial_wide v_planned_trial_folds v_planned_trial_wrong v_planned_trial_more v_planned_trial_rowOf v_planned_trial_colOf v_planned_trial_below v_planned_trial_face v_planned_trial_worn v_planned_trial_last v_planned_trial_bend v_planned_trial_tall v_planned_lines v_planned_ways v_search_found v_search_wrong v_search_more v_search_folds v_search_wanted v_search_levels0_rows v_search_levels0_cols v_search_levels0_high v_search_levels0_wide v_search_levels0_folds v_search_levels0_wrong v_search_levels0_more v_search_levels0_rowOf v_search_levels0_colOf v_search_levels0_below v_search_levels0_face v_search_levels0_worn v_search_levels0_last v_search_levels0_bend v_search_levels0_tall v_search_levels1_rows v_search_levels1_cols v_search_levels1_high v_search_levels1_wide v_search_levels1_folds v_search_levels1_wrong v_search_levels1_more v_search_levels1_rowOf v_search_levels1_colOf v_search_levels1_below v_search_levels1_face v_search_levels1_worn v_search_levels1_last v_search_levels1_bend v_search_levels1_tall v_search_levels2_rows v_search_levels2_cols v_search_levels2_high v_search_levels2_wide v_search_levels2_folds v_search_levels2_wrong v_search_levels2_more v_search_levels2_rowOf v_search_levels2_colOf v_search_levels2_below v_search_levels2_face v_search_levels2_worn v_search_levels2_last v_search_levels2_bend v_search_levels2_tall v_search_levels3_rows v_search_levels3_cols v_search_levels3_high v_search_levels3_wide v_search_levels3_folds v_search_levels3_wrong v_search_levels3_more v_search_levels3_rowOf v_search_levels3_colOf v_search_levels3_below v_search_levels3_face v_search_levels3_worn v_search_levels3_last v_search_levels3_bend v_search_levels3_tall v_search_path v_search_best v_strip_list v_strip_found v_strip_at v_changes_value v_changes_done v_changes_size v_changes_before v_changes_after v_foldings_size v_foldings_ran v_foldings_number v_foldings_kinds v_foldings_trace v_shelves0_holds v_shelves0_body v_shelves0_sort v_shelves0_size v_shelves0_items v_shelves1_holds v_shelves1_body v_shelves1_sort v_shelves1_size v_shelves1_items v_shelves2_holds v_shelves2_body v_shelves2_sort v_shelves2_size (mm_cp v_shelves4_items v_shelves2_items x2 x4 x5) v_shelves3_holds v_shelves3_body v_shelves3_sort v_shelves3_size v_shelves3_items v_shelves4_holds v_shelves4_body v_shelves4_sort v_shelves4_size v_shelves4_items v_shelves5_holds v_shelves5_body v_shelves5_sort v_shelves5_size v_shelves5_items)) rfl (fun H locs hP hD hS => ?_)
                                      generalize el_416 : (mm_cp v_shelves4_items v_shelves2_items x2 x4 x5) = l_416 at hP hD
                                      have hf := mm_nms hf el_416.symm
                                      refine lv_iload hx hb dX8_shift_134 (lv_at hl 7 rfl) ?_
                                      apply mm_sub7 hf
                                      exact mm_iret C0 hP hD hS dX8_shift_136
                                    · have hf := mm_ip hf (mm_b0 c_414)
                                      refine lv_bipush (v := -13) hx hb dX8_shift_113 (by decide) ?_
                                      apply mm_sub7 hf
                                      exact mm_iret C0 hP hD hS dX8_shift_115
                              · have hf := mm_in hf c_407
                                refine lv_bipush (v := -12) hx hb dX8_shift_82 (by decide) ?_
                                apply mm_sub7 hf
                                exact mm_iret C0 hP hD hS dX8_shift_84
                        · have hf := mm_ip hf c_404
                          refine lv_bipush (v := -11) hx hb dX8_shift_48 (by decide) ?_
                          apply mm_sub7 hf
                          exact mm_iret C0 hP hD hS dX8_shift_50
                    · have hf := mm_in hf c_402
                      by_cases c_417 : x3 = (3 : Int32)
                      · have hf := mm_ip hf c_417
                        refine mm_aald 3 rfl C0 hP 86 rfl (b := a 93) (by rw [c_417]; rfl) (by rw [c_417]; rfl) dX8_shift_29 ?_
                        refine lv_astore (lv' := [(7, .ref (a 93)), (6, .ref (a 95)), (0, .ref (a 0)), (1, .int x1), (2, .int x2), (3, .int x3), (4, .int x4), (5, .int x5)]) hx hb dX8_shift_30 hl (by decide) rfl (fun ls hl => ?_)
                        refine lv_aload hx hb dX8_shift_32 (lv_at hl 1 rfl) ?_
                        refine mm_get C0 hP iw_X6 95 rfl rfl 0 (by decide) fl_X8_168 rfl dX8_shift_34 ?_
                        refine lv_if_eq (tgt := 48) hx hb dX8_shift_37 (by decide) (fun c_418 => ?_) (fun c_418 => ?_)
                        · have hf := mm_ip hf c_418
                          refine lv_bipush (v := -11) hx hb dX8_shift_48 (by decide) ?_
                          apply mm_sub7 hf
                          exact mm_iret C0 hP hD hS dX8_shift_50
                        · have hf := mm_in hf c_418
                          refine lv_aload hx hb dX8_shift_40 (lv_at hl 0 rfl) ?_
                          refine mm_get C0 hP iw_X6 93 rfl rfl 0 (by decide) fl_X8_168 rfl dX8_shift_42 ?_
                          refine lv_if_ne (tgt := 51) hx hb dX8_shift_45 (by decide) (fun c_419 => ?_) (fun c_419 => ?_)
                          · have hf := mm_in hf c_419
                            refine lv_aload hx hb dX8_shift_51 (lv_at hl 1 rfl) ?_
                            refine mm_get C0 hP iw_X6 95 rfl rfl 0 (by decide) fl_X8_168 rfl dX8_shift_53 ?_
                            refine lv_iconst (v := 2) hx hb dX8_shift_56 (by decide) ?_
                            refine lv_icmp_ne (tgt := 82) hx hb dX8_shift_57 (by decide) (fun c_420 => ?_) (fun c_420 => ?_)
                            · have hf := mm_in hf c_420
                              refine lv_bipush (v := -12) hx hb dX8_shift_82 (by decide) ?_
                              apply mm_sub7 hf
                              exact mm_iret C0 hP hD hS dX8_shift_84
                            · have hf := mm_ip hf c_420
                              refine lv_aload hx hb dX8_shift_60 (lv_at hl 0 rfl) ?_
                              refine mm_get C0 hP iw_X6 93 rfl rfl 0 (by decide) fl_X8_168 rfl dX8_shift_62 ?_
                              refine lv_iconst (v := 2) hx hb dX8_shift_65 (by decide) ?_
                              refine lv_icmp_ne (tgt := 82) hx hb dX8_shift_66 (by decide) (fun c_421 => ?_) (fun c_421 => ?_)
                              · have hf := mm_in hf c_421
                                refine lv_bipush (v := -12) hx hb dX8_shift_82 (by decide) ?_
                                apply mm_sub7 hf
                                exact mm_iret C0 hP hD hS dX8_shift_84
                              · have hf := mm_ip hf c_421
                                refine lv_aload hx hb dX8_shift_69 (lv_at hl 1 rfl) ?_
                                refine mm_get C0 hP iw_X6 95 rfl rfl 2 (by decide) fl_X8_171 rfl dX8_shift_71 ?_
                                refine lv_aload hx hb dX8_shift_74 (lv_at hl 0 rfl) ?_
                                refine mm_get C0 hP iw_X6 93 rfl rfl 2 (by decide) fl_X8_171 rfl dX8_shift_76 ?_
                                refine lv_icmp_eq (tgt := 85) hx hb dX8_shift_79 (by decide) (fun c_422 => ?_) (fun c_422 => ?_)
                                · have hf := mm_ip hf c_422
                                  refine lv_iload hx hb dX8_shift_85 (lv_at hl 7 rfl) ?_
                                  refine lv_if_lt (tgt := 113) hx hb dX8_shift_87 (by decide) (fun c_423 => ?_) (fun c_423 => ?_)
                                  · have hf := mm_ip hf c_423
                                    refine lv_bipush (v := -13) hx hb dX8_shift_113 (by decide) ?_
                                    apply mm_sub7 hf
                                    exact mm_iret C0 hP hD hS dX8_shift_115
                                  · have hf := mm_in hf c_423
                                    refine lv_aload hx hb dX8_shift_90 (lv_at hl 1 rfl) ?_
                                    refine lv_iload_n hx hb dX8_shift_92 rfl (lv_at hl 4 rfl) ?_
                                    refine lv_iload hx hb dX8_shift_93 (lv_at hl 7 rfl) ?_
                                    obtain ⟨r_424, hc_425, hf⟩ := mm_bd1s hf
                                    refine mm_callW (q0 := 95) (ci := 6) (w2 := (wd_X8 cI cL cS cH a v_hasImage v_now_rows v_now_cols v_now_high v_now_wide v_now_folds v_now_wrong v_now_more v_now_rowOf v_now_colOf v_now_below v_now_face v_now_worn v_now_last v_now_bend v_now_tall v_kept_rows v_kept_cols v_kept_high v_kept_wide v_kept_folds v_kept_wrong v_kept_more v_kept_rowOf v_kept_colOf v_kept_below v_kept_face v_kept_worn v_kept_last v_kept_bend v_kept_tall v_wearing_size v_wearing_stepCount v_wearing_draftCount v_wearing_place v_wearing_fault v_wearing_stacked v_wearing_tape v_wearing_steps v_wearing_draft v_wearing_stack v_planned_size v_planned_trial_rows v_planned_trial_cols v_planned_trial_high v_planned_trial_wide v_planned_trial_folds v_planned_trial_wrong v_planned_trial_more v_planned_trial_rowOf v_planned_trial_colOf v_planned_trial_below v_planned_trial_face v_planned_trial_worn v_planned_trial_last v_planned_trial_bend v_planned_trial_tall v_planned_lines v_planned_ways v_search_found v_search_wrong v_search_more v_search_folds v_search_wanted v_search_levels0_rows v_search_levels0_cols v_search_levels0_high v_search_levels0_wide v_search_levels0_folds v_search_levels0_wrong v_search_levels0_more v_search_levels0_rowOf v_search_levels0_colOf v_search_levels0_below v_search_levels0_face v_search_levels0_worn v_search_levels0_last v_search_levels0_bend v_search_levels0_tall v_search_levels1_rows v_search_levels1_cols v_search_levels1_high v_search_levels1_wide v_search_levels1_folds v_search_levels1_wrong v_search_levels1_more v_search_levels1_rowOf v_search_levels1_colOf v_search_levels1_below v_search_levels1_face v_search_levels1_worn v_search_levels1_last v_search_levels1_bend v_search_levels1_tall v_search_levels2_rows v_search_levels2_cols v_search_levels2_high v_search_levels2_wide v_search_levels2_folds v_search_levels2_wrong v_search_levels2_more v_search_levels2_rowOf v_search_levels2_colOf v_search_levels2_below v_search_levels2_face v_search_levels2_worn v_search_levels2_last v_search_levels2_bend v_search_levels2_tall v_search_levels3_rows v_search_levels3_cols v_search_levels3_high v_search_levels3_wide v_search_levels3_folds v_search_levels3_wrong v_search_levels3_more v_search_levels3_rowOf v_search_levels3_colOf v_search_levels3_below v_search_levels3_face v_search_levels3_worn v_search_levels3_last v_search_levels3_bend v_search_levels3_tall v_search_path v_search_best v_strip_list v_strip_found v_strip_at v_changes_value v_changes_done v_changes_size v_changes_before v_changes_after v_foldings_size v_foldings_ran v_foldings_number v_foldings_kinds v_foldings_trace v_shelves0_holds v_shelves0_body v_shelves0_sort v_shelves0_size v_shelves0_items v_shelves1_holds v_shelves1_body v_shelves1_sort v_shelves1_size v_shelves1_items v_shelves2_holds v_shelves2_body v_shelves2_sort v_shelves2_size v_shelves2_items v_shelves3_holds v_shelves3_body v_shelves3_sort v_shelves3_size v_shelves3_items v_shelves4_holds v_shelves4_body v_shelves4_sort v_shelves4_size v_shelves4_items v_shelves5_holds v_shelves5_body v_shelves5_sort v_shelves5_size v_shelves5_items)) (rest := []) C0 lk_X8_303 (ctX6_hasPart (a := (fun k => a (k + 95))) (d := d - 1) (by omega) hc_425) (by omega) rfl hl.1 rfl (mm_cat rfl) dX8_shift_95 hP hD hA hS rfl rfl [false, false, false, false, false, false, false, false, false, false, false, false, false, false, false, false, false, false, false, false, false, false, false, false, false, false, false, false, false, false, false, false, false, false, false, false, false, false, false, false, false, false, false, false, false, false, false, false, false, false, false, false, false, false, false, false, false, false, false, false, false, false, false, false, false, false, false, false, false, false, false, false, false, false, false, false, false, false, false, false, false, false, false, false, false, false, false, false, false, false, false, false, false, false, false, true, true, false, false] rfl rfl rfl rfl (fun H locs hP hD hS => ?_)
                                    refine W.eq (g2 := F0 m 98 ls [.int (mm_b r_424)]) rfl ?_
                                    refine lv_if_eq (tgt := 113) hx hb dX8_shift_98 (by decide) (fun c_426 => ?_) (fun c_426 => ?_)
                                    · have hf := mm_ip hf (mm_b0 c_426)
                                      refine lv_bipush (v := -13) hx hb dX8_shift_113 (by decide) ?_
                                      apply mm_sub7 hf
                                      exact mm_iret C0 hP hD hS dX8_shift_115
                                    · have hf := mm_in hf (mm_b1 c_426)
                                      refine lv_aload hx hb dX8_shift_101 (lv_at hl 0 rfl) ?_
                                      refine lv_iload hx hb dX8_shift_103 (lv_at hl 6 rfl) ?_
                                      refine lv_iload hx hb dX8_shift_105 (lv_at hl 7 rfl) ?_
                                      obtain ⟨r_427, hc_428, hf⟩ := mm_bd1s hf
                                      refine mm_callW (q0 := 93) (ci := 6) (w2 := (wd_X8 cI cL cS cH a v_hasImage v_now_rows v_now_cols v_now_high v_now_wide v_now_folds v_now_wrong v_now_more v_now_rowOf v_now_colOf v_now_below v_now_face v_now_worn v_now_last v_now_bend v_now_tall v_kept_rows v_kept_cols v_kept_high v_kept_wide v_kept_folds v_kept_wrong v_kept_more v_kept_rowOf v_kept_colOf v_kept_below v_kept_face v_kept_worn v_kept_last v_kept_bend v_kept_tall v_wearing_size v_wearing_stepCount v_wearing_draftCount v_wearing_place v_wearing_fault v_wearing_stacked v_wearing_tape v_wearing_steps v_wearing_draft v_wearing_stack v_planned_size v_planned_trial_rows v_planned_trial_cols v_planned_trial_high v_planned_trial_wide v_planned_trial_folds v_planned_trial_wrong v_planned_trial_more v_planned_trial_rowOf v_planned_trial_colOf v_planned_trial_below v_planned_trial_face v_planned_trial_worn v_planned_trial_last v_planned_trial_bend v_planned_trial_tall v_planned_lines v_planned_ways v_search_found v_search_wrong v_search_more v_search_folds v_search_wanted v_search_levels0_rows v_search_levels0_cols v_search_levels0_high v_search_levels0_wide v_search_levels0_folds v_search_levels0_wrong v_search_levels0_more v_search_levels0_rowOf v_search_levels0_colOf v_search_levels0_below v_search_levels0_face v_search_levels0_worn v_search_levels0_last v_search_levels0_bend v_search_levels0_tall v_search_levels1_rows v_search_levels1_cols v_search_levels1_high v_search_levels1_wide v_search_levels1_folds v_search_levels1_wrong v_search_levels1_more v_search_levels1_rowOf v_search_levels1_colOf v_search_levels1_below v_search_levels1_face v_search_levels1_worn v_search_levels1_last v_search_levels1_bend v_search_levels1_tall v_search_levels2_rows v_search_levels2_cols v_search_levels2_high v_search_levels2_wide v_search_levels2_folds v_search_levels2_wrong v_search_levels2_more v_search_levels2_rowOf v_search_levels2_colOf v_search_levels2_below v_search_levels2_face v_search_levels2_worn v_search_levels2_last v_search_levels2_bend v_search_levels2_tall v_search_levels3_rows v_search_levels3_cols v_search_levels3_high v_search_levels3_wide v_search_levels3_folds v_search_levels3_wrong v_search_levels3_more v_search_levels3_rowOf v_search_levels3_colOf v_search_levels3_below v_search_levels3_face v_search_levels3_worn v_search_levels3_last v_search_levels3_bend v_search_levels3_tall v_search_path v_search_best v_strip_list v_strip_found v_strip_at v_changes_value v_changes_done v_changes_size v_changes_before v_changes_after v_foldings_size v_foldings_ran v_foldings_number v_foldings_kinds v_foldings_trace v_shelves0_holds v_shelves0_body v_shelves0_sort v_shelves0_size v_shelves0_items v_shelves1_holds v_shelves1_body v_shelves1_sort v_shelves1_size v_shelves1_items v_shelves2_holds v_shelves2_body v_shelves2_sort v_shelves2_size v_shelves2_items v_shelves3_holds v_shelves3_body v_shelves3_sort v_shelves3_size v_shelves3_items v_shelves4_holds v_shelves4_body v_shelves4_sort v_shelves4_size v_shelves4_items v_shelves5_holds v_shelves5_body v_shelves5_sort v_shelves5_size v_shelves5_items)) (rest := []) C0 lk_X8_303 (ctX6_hasPart (a := (fun k => a (k + 93))) (d := d - 1) (by omega) hc_428) (by omega) rfl hl.1 rfl (mm_cat rfl) dX8_shift_107 hP hD hA hS rfl rfl [false, false, false, false, false, false, false, false, false, false, false, false, false, false, false, false, false, false, false, false, false, false, false, false, false, false, false, false, false, false, false, false, false, false, false, false, false, false, false, false, false, false, false, false, false, false, false, false, false, false, false, false, false, false, false, false, false, false, false, false, false, false, false, false, false, false, false, false, false, false, false, false, false, false, false, false, false, false, false, false, false, false, false, false, false, false, false, false, false, false, false, false, false, true, true, false, false, false, false] rfl rfl rfl rfl (fun H locs hP hD hS => ?_)
                                      refine W.eq (g2 := F0 m 110 ls [.int (mm_b r_427)]) rfl ?_
                                      refine lv_if_ne (tgt := 116) hx hb dX8_shift_110 (by decide) (fun c_429 => ?_) (fun c_429 => ?_)
                                      · have hf := mm_in hf (mm_b1 c_429)
                                        refine lv_aload hx hb dX8_shift_116 (lv_at hl 1 rfl) ?_
                                        refine mm_get C0 hP iw_X6 95 rfl rfl 4 (by decide) fl_X8_299 rfl dX8_shift_118 ?_
                                        refine lv_iload_n hx hb dX8_shift_121 rfl (lv_at hl 4 rfl) ?_
                                        refine lv_aload hx hb dX8_shift_122 (lv_at hl 0 rfl) ?_
                                        refine mm_get C0 hP iw_X6 93 rfl rfl 4 (by decide) fl_X8_299 rfl dX8_shift_124 ?_
                                        refine lv_iload hx hb dX8_shift_127 (lv_at hl 6 rfl) ?_
                                        refine lv_iload hx hb dX8_shift_129 (lv_at hl 7 rfl) ?_
                                        obtain ⟨h_430, hf⟩ := mm_cks hf
                                        refine mm_copyl C0 la_X8_306 hP hD hS 96 94 rfl rfl h_430 hl.1 (by omega) (mm_cat rfl) dX8_shift_131 (w2 := (wd_X8 cI cL cS cH a v_hasImage v_now_rows v_now_cols v_now_high v_now_wide v_now_folds v_now_wrong v_now_more v_now_rowOf v_now_colOf v_now_below v_now_face v_now_worn v_now_last v_now_bend v_now_tall v_kept_rows v_kept_cols v_kept_high v_kept_wide v_kept_folds v_kept_wrong v_kept_more v_kept_rowOf v_kept_colOf v_kept_below v_kept_face v_kept_worn v_kept_last v_kept_bend v_kept_tall v_wearing_size v_wearing_stepCount v_wearing_draftCount v_wearing_place v_wearing_fault v_wearing_stacked v_wearing_tape v_wearing_steps v_wearing_draft v_wearing_stack v_planned_size v_planned_trial_rows v_planned_trial_cols v_planned_trial_high v_planned_trial_wide v_planned_trial_folds v_planned_trial_wrong v_planned_trial_more v_planned_trial_rowOf v_planned_trial_colOf v_planned_trial_below v_planned_trial_face v_planned_trial_worn v_planned_trial_last v_planned_trial_bend v_planned_trial_tall v_planned_lines v_planned_ways v_search_found v_search_wrong v_search_more v_search_folds v_search_wanted v_search_levels0_rows v_search_levels0_cols v_search_levels0_high v_search_levels0_wide v_search_levels0_folds v_search_levels0_wrong v_search_levels0_more v_search_levels0_rowOf v_search_levels0_colOf v_search_levels0_below v_search_levels0_face v_search_levels0_worn v_search_levels0_last v_search_levels0_bend v_search_levels0_tall v_search_levels1_rows v_search_levels1_cols v_search_levels1_high v_search_levels1_wide v_search_levels1_folds v_search_levels1_wrong v_search_levels1_more v_search_levels1_rowOf v_search_levels1_colOf v_search_levels1_below v_search_levels1_face v_search_levels1_worn v_search_levels1_last v_search_levels1_bend v_search_levels1_tall v_search_levels2_rows v_search_levels2_cols v_search_levels2_high v_search_levels2_wide v_search_levels2_folds v_search_levels2_wrong v_search_levels2_more v_search_levels2_rowOf v_search_levels2_colOf v_search_levels2_below v_search_levels2_face v_search_levels2_worn v_search_levels2_last v_search_levels2_bend v_search_levels2_tall v_search_levels3_rows v_search_levels3_cols v_search_levels3_high v_search_levels3_wide v_search_levels3_folds v_search_levels3_wrong v_search_levels3_more v_search_levels3_rowOf v_search_levels3_colOf v_search_levels3_below v_search_levels3_face v_search_levels3_worn v_search_levels3_last v_search_levels3_bend v_search_levels3_tall v_search_path v_search_best v_strip_list v_strip_found v_strip_at v_changes_value v_changes_done v_changes_size v_changes_before v_changes_after v_foldings_size v_foldings_ran v_foldings_number v_foldings_kinds v_foldings_trace v_shelves0_holds v_shelves0_body v_shelves0_sort v_shelves0_size v_shelves0_items v_shelves1_holds v_shelves1_body v_shelves1_sort v_shelves1_size v_shelves1_items v_shelves2_holds v_shelves2_body v_shelves2_sort v_shelves2_size v_shelves2_items v_shelves3_holds v_shelves3_body v_shelves3_sort v_shelves3_size (mm_cp v_shelves4_items v_shelves3_items x2 x4 x5) v_shelves4_holds v_shelves4_body v_shelves4_sort v_shelves4_size v_shelves4_items v_shelves5_holds v_shelves5_body v_shelves5_sort v_shelves5_size v_shelves5_items)) rfl (fun H locs hP hD hS => ?_)
                                        generalize el_431 : (mm_cp v_shelves4_items v_shelves3_items x2 x4 x5) = l_431 at hP hD
                                        have hf := mm_nms hf el_431.symm
                                        refine lv_iload hx hb dX8_shift_134 (lv_at hl 7 rfl) ?_
                                        apply mm_sub7 hf
                                        exact mm_iret C0 hP hD hS dX8_shift_136
                                      · have hf := mm_ip hf (mm_b0 c_429)
                                        refine lv_bipush (v := -13) hx hb dX8_shift_113 (by decide) ?_
                                        apply mm_sub7 hf
                                        exact mm_iret C0 hP hD hS dX8_shift_115
                                · have hf := mm_in hf c_422
                                  refine lv_bipush (v := -12) hx hb dX8_shift_82 (by decide) ?_
                                  apply mm_sub7 hf
                                  exact mm_iret C0 hP hD hS dX8_shift_84
                          · have hf := mm_ip hf c_419
                            refine lv_bipush (v := -11) hx hb dX8_shift_48 (by decide) ?_
                            apply mm_sub7 hf
                            exact mm_iret C0 hP hD hS dX8_shift_50
                      · have hf := mm_in hf c_417
                        by_cases c_432 : x3 = (4 : Int32)
                        · have hf := mm_ip hf c_432
                          refine mm_aald 3 rfl C0 hP 86 rfl (b := a 95) (by rw [c_432]; rfl) (by rw [c_432]; rfl) dX8_shift_29 ?_
                          refine lv_astore (lv' := [(7, .ref (a 95)), (6, .ref (a 95)), (0, .ref (a 0)), (1, .int x1), (2, .int x2), (3, .int x3), (4, .int x4), (5, .int x5)]) hx hb dX8_shift_30 hl (by decide) rfl (fun ls hl => ?_)
                          refine lv_aload hx hb dX8_shift_32 (lv_at hl 1 rfl) ?_
                          refine mm_get C0 hP iw_X6 95 rfl rfl 0 (by decide) fl_X8_168 rfl dX8_shift_34 ?_
                          refine lv_if_eq (tgt := 48) hx hb dX8_shift_37 (by decide) (fun c_433 => ?_) (fun c_433 => ?_)
                          · have hf := mm_ip hf c_433
                            refine lv_bipush (v := -11) hx hb dX8_shift_48 (by decide) ?_
                            apply mm_sub7 hf
                            exact mm_iret C0 hP hD hS dX8_shift_50
                          · have hf := mm_in hf c_433
                            refine lv_aload hx hb dX8_shift_40 (lv_at hl 0 rfl) ?_
                            refine mm_get C0 hP iw_X6 95 rfl rfl 0 (by decide) fl_X8_168 rfl dX8_shift_42 ?_
                            refine lv_if_ne (tgt := 51) hx hb dX8_shift_45 (by decide) (fun c_434 => ?_) (fun c_434 => ?_)
                            · have hf := mm_in hf c_434
                              refine lv_aload hx hb dX8_shift_51 (lv_at hl 1 rfl) ?_
                              refine mm_get C0 hP iw_X6 95 rfl rfl 0 (by decide) fl_X8_168 rfl dX8_shift_53 ?_
                              refine lv_iconst (v := 2) hx hb dX8_shift_56 (by decide) ?_
                              refine lv_icmp_ne (tgt := 82) hx hb dX8_shift_57 (by decide) (fun c_435 => ?_) (fun c_435 => ?_)
                              · have hf := mm_in hf c_435
                                refine lv_bipush (v := -12) hx hb dX8_shift_82 (by decide) ?_
                                apply mm_sub7 hf
                                exact mm_iret C0 hP hD hS dX8_shift_84
                              · have hf := mm_ip hf c_435
                                refine lv_aload hx hb dX8_shift_60 (lv_at hl 0 rfl) ?_
                                refine mm_get C0 hP iw_X6 95 rfl rfl 0 (by decide) fl_X8_168 rfl dX8_shift_62 ?_
                                refine lv_iconst (v := 2) hx hb dX8_shift_65 (by decide) ?_
                                refine lv_icmp_ne (tgt := 82) hx hb dX8_shift_66 (by decide) (fun c_436 => ?_) (fun c_436 => ?_)
                                · have hf := mm_in hf c_436
                                  refine lv_bipush (v := -12) hx hb dX8_shift_82 (by decide) ?_
                                  apply mm_sub7 hf
                                  exact mm_iret C0 hP hD hS dX8_shift_84
                                · have hf := mm_ip hf c_436
                                  refine lv_aload hx hb dX8_shift_69 (lv_at hl 1 rfl) ?_
                                  refine mm_get C0 hP iw_X6 95 rfl rfl 2 (by decide) fl_X8_171 rfl dX8_shift_71 ?_
                                  refine lv_aload hx hb dX8_shift_74 (lv_at hl 0 rfl) ?_
                                  refine mm_get C0 hP iw_X6 95 rfl rfl 2 (by decide) fl_X8_171 rfl dX8_shift_76 ?_
                                  refine lv_icmp_eq (tgt := 85) hx hb dX8_shift_79 (by decide) (fun c_437 => ?_) (fun c_437 => ?_)
                                  · have hf := mm_ip hf c_437
                                    refine lv_iload hx hb dX8_shift_85 (lv_at hl 7 rfl) ?_
                                    refine lv_if_lt (tgt := 113) hx hb dX8_shift_87 (by decide) (fun c_438 => ?_) (fun c_438 => ?_)
                                    · have hf := mm_ip hf c_438
                                      refine lv_bipush (v := -13) hx hb dX8_shift_113 (by decide) ?_
                                      apply mm_sub7 hf
                                      exact mm_iret C0 hP hD hS dX8_shift_115
                                    · have hf := mm_in hf c_438
                                      refine lv_aload hx hb dX8_shift_90 (lv_at hl 1 rfl) ?_
                                      refine lv_iload_n hx hb dX8_shift_92 rfl (lv_at hl 4 rfl) ?_
                                      refine lv_iload hx hb dX8_shift_93 (lv_at hl 7 rfl) ?_
                                      obtain ⟨r_439, hc_440, hf⟩ := mm_bd1s hf
                                      refine mm_callW (q0 := 95) (ci := 6) (w2 := (wd_X8 cI cL cS cH a v_hasImage v_now_rows v_now_cols v_now_high v_now_wide v_now_folds v_now_wrong v_now_more v_now_rowOf v_now_colOf v_now_below v_now_face v_now_worn v_now_last v_now_bend v_now_tall v_kept_rows v_kept_cols v_kept_high v_kept_wide v_kept_folds v_kept_wrong v_kept_more v_kept_rowOf v_kept_colOf v_kept_below v_kept_face v_kept_worn v_kept_last v_kept_bend v_kept_tall v_wearing_size v_wearing_stepCount v_wearing_draftCount v_wearing_place v_wearing_fault v_wearing_stacked v_wearing_tape v_wearing_steps v_wearing_draft v_wearing_stack v_planned_size v_planned_trial_rows v_planned_trial_cols v_planned_trial_high v_planned_trial_wide v_planned_trial_folds v_planned_trial_wrong v_planned_trial_more v_planned_trial_rowOf v_planned_trial_colOf v_planned_trial_below v_planned_trial_face v_planned_trial_worn v_planned_trial_last v_planned_trial_bend v_planned_trial_tall v_planned_lines v_planned_ways v_search_found v_search_wrong v_search_more v_search_folds v_search_wanted v_search_levels0_rows v_search_levels0_cols v_search_levels0_high v_search_levels0_wide v_search_levels0_folds v_search_levels0_wrong v_search_levels0_more v_search_levels0_rowOf v_search_levels0_colOf v_search_levels0_below v_search_levels0_face v_search_levels0_worn v_search_levels0_last v_search_levels0_bend v_search_levels0_tall v_search_levels1_rows v_search_levels1_cols v_search_levels1_high v_search_levels1_wide v_search_levels1_folds v_search_levels1_wrong v_search_levels1_more v_search_levels1_rowOf v_search_levels1_colOf v_search_levels1_below v_search_levels1_face v_search_levels1_worn v_search_levels1_last v_search_levels1_bend v_search_levels1_tall v_search_levels2_rows v_search_levels2_cols v_search_levels2_high v_search_levels2_wide v_search_levels2_folds v_search_levels2_wrong v_search_levels2_more v_search_levels2_rowOf v_search_levels2_colOf v_search_levels2_below v_search_levels2_face v_search_levels2_worn v_search_levels2_last v_search_levels2_bend v_search_levels2_tall v_search_levels3_rows v_search_levels3_cols v_search_levels3_high v_search_levels3_wide v_search_levels3_folds v_search_levels3_wrong v_search_levels3_more v_search_levels3_rowOf v_search_levels3_colOf v_search_levels3_below v_search_levels3_face v_search_levels3_worn v_search_levels3_last v_search_levels3_bend v_search_levels3_tall v_search_path v_search_best v_strip_list v_strip_found v_strip_at v_changes_value v_changes_done v_changes_size v_changes_before v_changes_after v_foldings_size v_foldings_ran v_foldings_number v_foldings_kinds v_foldings_trace v_shelves0_holds v_shelves0_body v_shelves0_sort v_shelves0_size v_shelves0_items v_shelves1_holds v_shelves1_body v_shelves1_sort v_shelves1_size v_shelves1_items v_shelves2_holds v_shelves2_body v_shelves2_sort v_shelves2_size v_shelves2_items v_shelves3_holds v_shelves3_body v_shelves3_sort v_shelves3_size v_shelves3_items v_shelves4_holds v_shelves4_body v_shelves4_sort v_shelves4_size v_shelves4_items v_shelves5_holds v_shelves5_body v_shelves5_sort v_shelves5_size v_shelves5_items)) (rest := []) C0 lk_X8_303 (ctX6_hasPart (a := (fun k => a (k + 95))) (d := d - 1) (by omega) hc_440) (by omega) rfl hl.1 rfl (mm_cat rfl) dX8_shift_95 hP hD hA hS rfl rfl [false, false, false, false, false, false, false, false, false, false, false, false, false, false, false, false, false, false, false, false, false, false, false, false, false, false, false, false, false, false, false, false, false, false, false, false, false, false, false, false, false, false, false, false, false, false, false, false, false, false, false, false, false, false, false, false, false, false, false, false, false, false, false, false, false, false, false, false, false, false, false, false, false, false, false, false, false, false, false, false, false, false, false, false, false, false, false, false, false, false, false, false, false, false, false, true, true, false, false] rfl rfl rfl rfl (fun H locs hP hD hS => ?_)
                                      refine W.eq (g2 := F0 m 98 ls [.int (mm_b r_439)]) rfl ?_
                                      refine lv_if_eq (tgt := 113) hx hb dX8_shift_98 (by decide) (fun c_441 => ?_) (fun c_441 => ?_)
                                      · have hf := mm_ip hf (mm_b0 c_441)
                                        refine lv_bipush (v := -13) hx hb dX8_shift_113 (by decide) ?_
                                        apply mm_sub7 hf
                                        exact mm_iret C0 hP hD hS dX8_shift_115
                                      · have hf := mm_in hf (mm_b1 c_441)
                                        refine lv_aload hx hb dX8_shift_101 (lv_at hl 0 rfl) ?_
                                        refine lv_iload hx hb dX8_shift_103 (lv_at hl 6 rfl) ?_
                                        refine lv_iload hx hb dX8_shift_105 (lv_at hl 7 rfl) ?_
                                        obtain ⟨r_442, hc_443, hf⟩ := mm_bd1s hf
                                        refine mm_callW (q0 := 95) (ci := 6) (w2 := (wd_X8 cI cL cS cH a v_hasImage v_now_rows v_now_cols v_now_high v_now_wide v_now_folds v_now_wrong v_now_more v_now_rowOf v_now_colOf v_now_below v_now_face v_now_worn v_now_last v_now_bend v_now_tall v_kept_rows v_kept_cols v_kept_high v_kept_wide v_kept_folds v_kept_wrong v_kept_more v_kept_rowOf v_kept_colOf v_kept_below v_kept_face v_kept_worn v_kept_last v_kept_bend v_kept_tall v_wearing_size v_wearing_stepCount v_wearing_draftCount v_wearing_place v_wearing_fault v_wearing_stacked v_wearing_tape v_wearing_steps v_wearing_draft v_wearing_stack v_planned_size v_planned_trial_rows v_planned_trial_cols v_planned_trial_high v_planned_trial_wide v_planned_trial_folds v_planned_trial_wrong v_planned_trial_more v_planned_trial_rowOf v_planned_trial_colOf v_planned_trial_below v_planned_trial_face v_planned_trial_worn v_planned_trial_last v_planned_trial_bend v_planned_trial_tall v_planned_lines v_planned_ways v_search_found v_search_wrong v_search_more v_search_folds v_search_wanted v_search_levels0_rows v_search_levels0_cols v_search_levels0_high v_search_levels0_wide v_search_levels0_folds v_search_levels0_wrong v_search_levels0_more v_search_levels0_rowOf v_search_levels0_colOf v_search_levels0_below v_search_levels0_face v_search_levels0_worn v_search_levels0_last v_search_levels0_bend v_search_levels0_tall v_search_levels1_rows v_search_levels1_cols v_search_levels1_high v_search_levels1_wide v_search_levels1_folds v_search_levels1_wrong v_search_levels1_more v_search_levels1_rowOf v_search_levels1_colOf v_search_levels1_below v_search_levels1_face v_search_levels1_worn v_search_levels1_last v_search_levels1_bend v_search_levels1_tall v_search_levels2_rows v_search_levels2_cols v_search_levels2_high v_search_levels2_wide v_search_levels2_folds v_search_levels2_wrong v_search_levels2_more v_search_levels2_rowOf v_search_levels2_colOf v_search_levels2_below v_search_levels2_face v_search_levels2_worn v_search_levels2_last v_search_levels2_bend v_search_levels2_tall v_search_levels3_rows v_search_levels3_cols v_search_levels3_high v_search_levels3_wide v_search_levels3_folds v_search_levels3_wrong v_search_levels3_more v_search_levels3_rowOf v_search_levels3_colOf v_search_levels3_below v_search_levels3_face v_search_levels3_worn v_search_levels3_last v_search_levels3_bend v_search_levels3_tall v_search_path v_search_best v_strip_list v_strip_found v_strip_at v_changes_value v_changes_done v_changes_size v_changes_before v_changes_after v_foldings_size v_foldings_ran v_foldings_number v_foldings_kinds v_foldings_trace v_shelves0_holds v_shelves0_body v_shelves0_sort v_shelves0_size v_shelves0_items v_shelves1_holds v_shelves1_body v_shelves1_sort v_shelves1_size v_shelves1_items v_shelves2_holds v_shelves2_body v_shelves2_sort v_shelves2_size v_shelves2_items v_shelves3_holds v_shelves3_body v_shelves3_sort v_shelves3_size v_shelves3_items v_shelves4_holds v_shelves4_body v_shelves4_sort v_shelves4_size v_shelves4_items v_shelves5_holds v_shelves5_body v_shelves5_sort v_shelves5_size v_shelves5_items)) (rest := []) C0 lk_X8_303 (ctX6_hasPart (a := (fun k => a (k + 95))) (d := d - 1) (by omega) hc_443) (by omega) rfl hl.1 rfl (mm_cat rfl) dX8_shift_107 hP hD hA hS rfl rfl [false, false, false, false, false, false, false, false, false, false, false, false, false, false, false, false, false, false, false, false, false, false, false, false, false, false, false, false, false, false, false, false, false, false, false, false, false, false, false, false, false, false, false, false, false, false, false, false, false, false, false, false, false, false, false, false, false, false, false, false, false, false, false, false, false, false, false, false, false, false, false, false, false, false, false, false, false, false, false, false, false, false, false, false, false, false, false, false, false, false, false, false, false, false, false, true, true, false, false] rfl rfl rfl rfl (fun H locs hP hD hS => ?_)
                                        refine W.eq (g2 := F0 m 110 ls [.int (mm_b r_442)]) rfl ?_
                                        refine lv_if_ne (tgt := 116) hx hb dX8_shift_110 (by decide) (fun c_444 => ?_) (fun c_444 => ?_)
                                        · have hf := mm_in hf (mm_b1 c_444)
                                          refine lv_aload hx hb dX8_shift_116 (lv_at hl 1 rfl) ?_
                                          refine mm_get C0 hP iw_X6 95 rfl rfl 4 (by decide) fl_X8_299 rfl dX8_shift_118 ?_
                                          refine lv_iload_n hx hb dX8_shift_121 rfl (lv_at hl 4 rfl) ?_
                                          refine lv_aload hx hb dX8_shift_122 (lv_at hl 0 rfl) ?_
                                          refine mm_get C0 hP iw_X6 95 rfl rfl 4 (by decide) fl_X8_299 rfl dX8_shift_124 ?_
                                          refine lv_iload hx hb dX8_shift_127 (lv_at hl 6 rfl) ?_
                                          refine lv_iload hx hb dX8_shift_129 (lv_at hl 7 rfl) ?_
                                          obtain ⟨h_445, hf⟩ := mm_cks hf
                                          refine mm_copyl C0 la_X8_306 hP hD hS 96 96 rfl rfl h_445 hl.1 (by omega) (mm_cat rfl) dX8_shift_131 (w2 := (wd_X8 cI cL cS cH a v_hasImage v_now_rows v_now_cols v_now_high v_now_wide v_now_folds v_now_wrong v_now_more v_now_rowOf v_now_colOf v_now_below v_now_face v_now_worn v_now_last v_now_bend v_now_tall v_kept_rows v_kept_cols v_kept_high v_kept_wide v_kept_folds v_kept_wrong v_kept_more v_kept_rowOf v_kept_colOf v_kept_below v_kept_face v_kept_worn v_kept_last v_kept_bend v_kept_tall v_wearing_size v_wearing_stepCount v_wearing_draftCount v_wearing_place v_wearing_fault v_wearing_stacked v_wearing_tape v_wearing_steps v_wearing_draft v_wearing_stack v_planned_size v_planned_trial_rows v_planned_trial_cols v_planned_trial_high v_planned_trial_wide v_planned_trial_folds v_planned_trial_wrong v_planned_trial_more v_planned_trial_rowOf v_planned_trial_colOf v_planned_trial_below v_planned_trial_face v_planned_trial_worn v_planned_trial_last v_planned_trial_bend v_planned_trial_tall v_planned_lines v_planned_ways v_search_found v_search_wrong v_search_more v_search_folds v_search_wanted v_search_levels0_rows v_search_levels0_cols v_search_levels0_high v_search_levels0_wide v_search_levels0_folds v_search_levels0_wrong v_search_levels0_more v_search_levels0_rowOf v_search_levels0_colOf v_search_levels0_below v_search_levels0_face v_search_levels0_worn v_search_levels0_last v_search_levels0_bend v_search_levels0_tall v_search_levels1_rows v_search_levels1_cols v_search_levels1_high v_search_levels1_wide v_search_levels1_folds v_search_levels1_wrong v_search_levels1_more v_search_levels1_rowOf v_search_levels1_colOf v_search_levels1_below v_search_levels1_face v_search_levels1_worn v_search_levels1_last v_search_levels1_bend v_search_levels1_tall v_search_levels2_rows v_search_levels2_cols v_search_levels2_high v_search_levels2_wide v_search_levels2_folds v_search_levels2_wrong v_search_levels2_more v_search_levels2_rowOf v_search_levels2_colOf v_search_levels2_below v_search_levels2_face v_search_levels2_worn v_search_levels2_last v_search_levels2_bend v_search_levels2_tall v_search_levels3_rows v_search_levels3_cols v_search_levels3_high v_search_levels3_wide v_search_levels3_folds v_search_levels3_wrong v_search_levels3_more v_search_levels3_rowOf v_search_levels3_colOf v_search_levels3_below v_search_levels3_face v_search_levels3_worn v_search_levels3_last v_search_levels3_bend v_search_levels3_tall v_search_path v_search_best v_strip_list v_strip_found v_strip_at v_changes_value v_changes_done v_changes_size v_changes_before v_changes_after v_foldings_size v_foldings_ran v_foldings_number v_foldings_kinds v_foldings_trace v_shelves0_holds v_shelves0_body v_shelves0_sort v_shelves0_size v_shelves0_items v_shelves1_holds v_shelves1_body v_shelves1_sort v_shelves1_size v_shelves1_items v_shelves2_holds v_shelves2_body v_shelves2_sort v_shelves2_size v_shelves2_items v_shelves3_holds v_shelves3_body v_shelves3_sort v_shelves3_size v_shelves3_items v_shelves4_holds v_shelves4_body v_shelves4_sort v_shelves4_size (mm_cp v_shelves4_items v_shelves4_items x2 x4 x5) v_shelves5_holds v_shelves5_body v_shelves5_sort v_shelves5_size v_shelves5_items)) rfl (fun H locs hP hD hS => ?_)
                                          generalize el_446 : (mm_cp v_shelves4_items v_shelves4_items x2 x4 x5) = l_446 at hP hD
                                          have hf := mm_nms hf el_446.symm
                                          refine lv_iload hx hb dX8_shift_134 (lv_at hl 7 rfl) ?_
                                          apply mm_sub7 hf
                                          exact mm_iret C0 hP hD hS dX8_shift_136
                                        · have hf := mm_ip hf (mm_b0 c_444)
                                          refine lv_bipush (v := -13) hx hb dX8_shift_113 (by decide) ?_
                                          apply mm_sub7 hf
                                          exact mm_iret C0 hP hD hS dX8_shift_115
                                  · have hf := mm_in hf c_437
                                    refine lv_bipush (v := -12) hx hb dX8_shift_82 (by decide) ?_
                                    apply mm_sub7 hf
                                    exact mm_iret C0 hP hD hS dX8_shift_84
                            · have hf := mm_ip hf c_434
                              refine lv_bipush (v := -11) hx hb dX8_shift_48 (by decide) ?_
                              apply mm_sub7 hf
                              exact mm_iret C0 hP hD hS dX8_shift_50
                        · have hf := mm_in hf c_432
                          by_cases c_447 : x3 = (5 : Int32)
                          · have hf := mm_ip hf c_447
                            refine mm_aald 3 rfl C0 hP 86 rfl (b := a 97) (by rw [c_447]; rfl) (by rw [c_447]; rfl) dX8_shift_29 ?_
                            refine lv_astore (lv' := [(7, .ref (a 97)), (6, .ref (a 95)), (0, .ref (a 0)), (1, .int x1), (2, .int x2), (3, .int x3), (4, .int x4), (5, .int x5)]) hx hb dX8_shift_30 hl (by decide) rfl (fun ls hl => ?_)
                            refine lv_aload hx hb dX8_shift_32 (lv_at hl 1 rfl) ?_
                            refine mm_get C0 hP iw_X6 95 rfl rfl 0 (by decide) fl_X8_168 rfl dX8_shift_34 ?_
                            refine lv_if_eq (tgt := 48) hx hb dX8_shift_37 (by decide) (fun c_448 => ?_) (fun c_448 => ?_)
                            · have hf := mm_ip hf c_448
                              refine lv_bipush (v := -11) hx hb dX8_shift_48 (by decide) ?_
                              apply mm_sub7 hf
                              exact mm_iret C0 hP hD hS dX8_shift_50
                            · have hf := mm_in hf c_448
                              refine lv_aload hx hb dX8_shift_40 (lv_at hl 0 rfl) ?_
                              refine mm_get C0 hP iw_X6 97 rfl rfl 0 (by decide) fl_X8_168 rfl dX8_shift_42 ?_
                              refine lv_if_ne (tgt := 51) hx hb dX8_shift_45 (by decide) (fun c_449 => ?_) (fun c_449 => ?_)
                              · have hf := mm_in hf c_449
                                refine lv_aload hx hb dX8_shift_51 (lv_at hl 1 rfl) ?_
                                refine mm_get C0 hP iw_X6 95 rfl rfl 0 (by decide) fl_X8_168 rfl dX8_shift_53 ?_
                                refine lv_iconst (v := 2) hx hb dX8_shift_56 (by decide) ?_
                                refine lv_icmp_ne (tgt := 82) hx hb dX8_shift_57 (by decide) (fun c_450 => ?_) (fun c_450 => ?_)
                                · have hf := mm_in hf c_450
                                  refine lv_bipush (v := -12) hx hb dX8_shift_82 (by decide) ?_
                                  apply mm_sub7 hf
                                  exact mm_iret C0 hP hD hS dX8_shift_84
                                · have hf := mm_ip hf c_450
                                  refine lv_aload hx hb dX8_shift_60 (lv_at hl 0 rfl) ?_
                                  refine mm_get C0 hP iw_X6 97 rfl rfl 0 (by decide) fl_X8_168 rfl dX8_shift_62 ?_
                                  refine lv_iconst (v := 2) hx hb dX8_shift_65 (by decide) ?_
                                  refine lv_icmp_ne (tgt := 82) hx hb dX8_shift_66 (by decide) (fun c_451 => ?_) (fun c_451 => ?_)
                                  · have hf := mm_in hf c_451
                                    refine lv_bipush (v := -12) hx hb dX8_shift_82 (by decide) ?_
                                    apply mm_sub7 hf
                                    exact mm_iret C0 hP hD hS dX8_shift_84
                                  · have hf := mm_ip hf c_451
                                    refine lv_aload hx hb dX8_shift_69 (lv_at hl 1 rfl) ?_
                                    refine mm_get C0 hP iw_X6 95 rfl rfl 2 (by decide) fl_X8_171 rfl dX8_shift_71 ?_
                                    refine lv_aload hx hb dX8_shift_74 (lv_at hl 0 rfl) ?_
                                    refine mm_get C0 hP iw_X6 97 rfl rfl 2 (by decide) fl_X8_171 rfl dX8_shift_76 ?_
                                    refine lv_icmp_eq (tgt := 85) hx hb dX8_shift_79 (by decide) (fun c_452 => ?_) (fun c_452 => ?_)
                                    · have hf := mm_ip hf c_452
                                      refine lv_iload hx hb dX8_shift_85 (lv_at hl 7 rfl) ?_
                                      refine lv_if_lt (tgt := 113) hx hb dX8_shift_87 (by decide) (fun c_453 => ?_) (fun c_453 => ?_)
                                      · have hf := mm_ip hf c_453
                                        refine lv_bipush (v := -13) hx hb dX8_shift_113 (by decide) ?_
                                        apply mm_sub7 hf
                                        exact mm_iret C0 hP hD hS dX8_shift_115
                                      · have hf := mm_in hf c_453
                                        refine lv_aload hx hb dX8_shift_90 (lv_at hl 1 rfl) ?_
                                        refine lv_iload_n hx hb dX8_shift_92 rfl (lv_at hl 4 rfl) ?_
                                        refine lv_iload hx hb dX8_shift_93 (lv_at hl 7 rfl) ?_
                                        obtain ⟨r_454, hc_455, hf⟩ := mm_bd1s hf
                                        refine mm_callW (q0 := 95) (ci := 6) (w2 := (wd_X8 cI cL cS cH a v_hasImage v_now_rows v_now_cols v_now_high v_now_wide v_now_folds v_now_wrong v_now_more v_now_rowOf v_now_colOf v_now_below v_now_face v_now_worn v_now_last v_now_bend v_now_tall v_kept_rows v_kept_cols v_kept_high v_kept_wide v_kept_folds v_kept_wrong v_kept_more v_kept_rowOf v_kept_colOf v_kept_below v_kept_face v_kept_worn v_kept_last v_kept_bend v_kept_tall v_wearing_size v_wearing_stepCount v_wearing_draftCount v_wearing_place v_wearing_fault v_wearing_stacked v_wearing_tape v_wearing_steps v_wearing_draft v_wearing_stack v_planned_size v_planned_trial_rows v_planned_trial_cols v_planned_trial_high v_planned_trial_wide v_planned_trial_folds v_planned_trial_wrong v_planned_trial_more v_planned_trial_rowOf v_planned_trial_colOf v_planned_trial_below v_planned_trial_face v_planned_trial_worn v_planned_trial_last v_planned_trial_bend v_planned_trial_tall v_planned_lines v_planned_ways v_search_found v_search_wrong v_search_more v_search_folds v_search_wanted v_search_levels0_rows v_search_levels0_cols v_search_levels0_high v_search_levels0_wide v_search_levels0_folds v_search_levels0_wrong v_search_levels0_more v_search_levels0_rowOf v_search_levels0_colOf v_search_levels0_below v_search_levels0_face v_search_levels0_worn v_search_levels0_last v_search_levels0_bend v_search_levels0_tall v_search_levels1_rows v_search_levels1_cols v_search_levels1_high v_search_levels1_wide v_search_levels1_folds v_search_levels1_wrong v_search_levels1_more v_search_levels1_rowOf v_search_levels1_colOf v_search_levels1_below v_search_levels1_face v_search_levels1_worn v_search_levels1_last v_search_levels1_bend v_search_levels1_tall v_search_levels2_rows v_search_levels2_cols v_search_levels2_high v_search_levels2_wide v_search_levels2_folds v_search_levels2_wrong v_search_levels2_more v_search_levels2_rowOf v_search_levels2_colOf v_search_levels2_below v_search_levels2_face v_search_levels2_worn v_search_levels2_last v_search_levels2_bend v_search_levels2_tall v_search_levels3_rows v_search_levels3_cols v_search_levels3_high v_search_levels3_wide v_search_levels3_folds v_search_levels3_wrong v_search_levels3_more v_search_levels3_rowOf v_search_levels3_colOf v_search_levels3_below v_search_levels3_face v_search_levels3_worn v_search_levels3_last v_search_levels3_bend v_search_levels3_tall v_search_path v_search_best v_strip_list v_strip_found v_strip_at v_changes_value v_changes_done v_changes_size v_changes_before v_changes_after v_foldings_size v_foldings_ran v_foldings_number v_foldings_kinds v_foldings_trace v_shelves0_holds v_shelves0_body v_shelves0_sort v_shelves0_size v_shelves0_items v_shelves1_holds v_shelves1_body v_shelves1_sort v_shelves1_size v_shelves1_items v_shelves2_holds v_shelves2_body v_shelves2_sort v_shelves2_size v_shelves2_items v_shelves3_holds v_shelves3_body v_shelves3_sort v_shelves3_size v_shelves3_items v_shelves4_holds v_shelves4_body v_shelves4_sort v_shelves4_size v_shelves4_items v_shelves5_holds v_shelves5_body v_shelves5_sort v_shelves5_size v_shelves5_items)) (rest := []) C0 lk_X8_303 (ctX6_hasPart (a := (fun k => a (k + 95))) (d := d - 1) (by omega) hc_455) (by omega) rfl hl.1 rfl (mm_cat rfl) dX8_shift_95 hP hD hA hS rfl rfl [false, false, false, false, false, false, false, false, false, false, false, false, false, false, false, false, false, false, false, false, false, false, false, false, false, false, false, false, false, false, false, false, false, false, false, false, false, false, false, false, false, false, false, false, false, false, false, false, false, false, false, false, false, false, false, false, false, false, false, false, false, false, false, false, false, false, false, false, false, false, false, false, false, false, false, false, false, false, false, false, false, false, false, false, false, false, false, false, false, false, false, false, false, false, false, true, true, false, false] rfl rfl rfl rfl (fun H locs hP hD hS => ?_)
                                        refine W.eq (g2 := F0 m 98 ls [.int (mm_b r_454)]) rfl ?_
                                        refine lv_if_eq (tgt := 113) hx hb dX8_shift_98 (by decide) (fun c_456 => ?_) (fun c_456 => ?_)
                                        · have hf := mm_ip hf (mm_b0 c_456)
                                          refine lv_bipush (v := -13) hx hb dX8_shift_113 (by decide) ?_
                                          apply mm_sub7 hf
                                          exact mm_iret C0 hP hD hS dX8_shift_115
                                        · have hf := mm_in hf (mm_b1 c_456)
                                          refine lv_aload hx hb dX8_shift_101 (lv_at hl 0 rfl) ?_
                                          refine lv_iload hx hb dX8_shift_103 (lv_at hl 6 rfl) ?_
                                          refine lv_iload hx hb dX8_shift_105 (lv_at hl 7 rfl) ?_
                                          obtain ⟨r_457, hc_458, hf⟩ := mm_bd1s hf
                                          refine mm_callW (q0 := 97) (ci := 6) (w2 := (wd_X8 cI cL cS cH a v_hasImage v_now_rows v_now_cols v_now_high v_now_wide v_now_folds v_now_wrong v_now_more v_now_rowOf v_now_colOf v_now_below v_now_face v_now_worn v_now_last v_now_bend v_now_tall v_kept_rows v_kept_cols v_kept_high v_kept_wide v_kept_folds v_kept_wrong v_kept_more v_kept_rowOf v_kept_colOf v_kept_below v_kept_face v_kept_worn v_kept_last v_kept_bend v_kept_tall v_wearing_size v_wearing_stepCount v_wearing_draftCount v_wearing_place v_wearing_fault v_wearing_stacked v_wearing_tape v_wearing_steps v_wearing_draft v_wearing_stack v_planned_size v_planned_trial_rows v_planned_trial_cols v_planned_trial_high v_planned_trial_wide v_planned_trial_folds v_planned_trial_wrong v_planned_trial_more v_planned_trial_rowOf v_planned_trial_colOf v_planned_trial_below v_planned_trial_face v_planned_trial_worn v_planned_trial_last v_planned_trial_bend v_planned_trial_tall v_planned_lines v_planned_ways v_search_found v_search_wrong v_search_more v_search_folds v_search_wanted v_search_levels0_rows v_search_levels0_cols v_search_levels0_high v_search_levels0_wide v_search_levels0_folds v_search_levels0_wrong v_search_levels0_more v_search_levels0_rowOf v_search_levels0_colOf v_search_levels0_below v_search_levels0_face v_search_levels0_worn v_search_levels0_last v_search_levels0_bend v_search_levels0_tall v_search_levels1_rows v_search_levels1_cols v_search_levels1_high v_search_levels1_wide v_search_levels1_folds v_search_levels1_wrong v_search_levels1_more v_search_levels1_rowOf v_search_levels1_colOf v_search_levels1_below v_search_levels1_face v_search_levels1_worn v_search_levels1_last v_search_levels1_bend v_search_levels1_tall v_search_levels2_rows v_search_levels2_cols v_search_levels2_high v_search_levels2_wide v_search_levels2_folds v_search_levels2_wrong v_search_levels2_more v_search_levels2_rowOf v_search_levels2_colOf v_search_levels2_below v_search_levels2_face v_search_levels2_worn v_search_levels2_last v_search_levels2_bend v_search_levels2_tall v_search_levels3_rows v_search_levels3_cols v_search_levels3_high v_search_levels3_wide v_search_levels3_folds v_search_levels3_wrong v_search_levels3_more v_search_levels3_rowOf v_search_levels3_colOf v_search_levels3_below v_search_levels3_face v_search_levels3_worn v_search_levels3_last v_search_levels3_bend v_search_levels3_tall v_search_path v_search_best v_strip_list v_strip_found v_strip_at v_changes_value v_changes_done v_changes_size v_changes_before v_changes_after v_foldings_size v_foldings_ran v_foldings_number v_foldings_kinds v_foldings_trace v_shelves0_holds v_shelves0_body v_shelves0_sort v_shelves0_size v_shelves0_items v_shelves1_holds v_shelves1_body v_shelves1_sort v_shelves1_size v_shelves1_items v_shelves2_holds v_shelves2_body v_shelves2_sort v_shelves2_size v_shelves2_items v_shelves3_holds v_shelves3_body v_shelves3_sort v_shelves3_size v_shelves3_items v_shelves4_holds v_shelves4_body v_shelves4_sort v_shelves4_size v_shelves4_items v_shelves5_holds v_shelves5_body v_shelves5_sort v_shelves5_size v_shelves5_items)) (rest := []) C0 lk_X8_303 (ctX6_hasPart (a := (fun k => a (k + 97))) (d := d - 1) (by omega) hc_458) (by omega) rfl hl.1 rfl (mm_cat rfl) dX8_shift_107 hP hD hA hS rfl rfl [false, false, false, false, false, false, false, false, false, false, false, false, false, false, false, false, false, false, false, false, false, false, false, false, false, false, false, false, false, false, false, false, false, false, false, false, false, false, false, false, false, false, false, false, false, false, false, false, false, false, false, false, false, false, false, false, false, false, false, false, false, false, false, false, false, false, false, false, false, false, false, false, false, false, false, false, false, false, false, false, false, false, false, false, false, false, false, false, false, false, false, false, false, false, false, false, false, true, true] rfl rfl rfl rfl (fun H locs hP hD hS => ?_)
                                          refine W.eq (g2 := F0 m 110 ls [.int (mm_b r_457)]) rfl ?_
                                          refine lv_if_ne (tgt := 116) hx hb dX8_shift_110 (by decide) (fun c_459 => ?_) (fun c_459 => ?_)
                                          · have hf := mm_in hf (mm_b1 c_459)
                                            refine lv_aload hx hb dX8_shift_116 (lv_at hl 1 rfl) ?_
                                            refine mm_get C0 hP iw_X6 95 rfl rfl 4 (by decide) fl_X8_299 rfl dX8_shift_118 ?_
                                            refine lv_iload_n hx hb dX8_shift_121 rfl (lv_at hl 4 rfl) ?_
                                            refine lv_aload hx hb dX8_shift_122 (lv_at hl 0 rfl) ?_
                                            refine mm_get C0 hP iw_X6 97 rfl rfl 4 (by decide) fl_X8_299 rfl dX8_shift_124 ?_
                                            refine lv_iload hx hb dX8_shift_127 (lv_at hl 6 rfl) ?_
                                            refine lv_iload hx hb dX8_shift_129 (lv_at hl 7 rfl) ?_
                                            obtain ⟨h_460, hf⟩ := mm_cks hf
                                            refine mm_copyl C0 la_X8_306 hP hD hS 96 98 rfl rfl h_460 hl.1 (by omega) (mm_cat rfl) dX8_shift_131 (w2 := (wd_X8 cI cL cS cH a v_hasImage v_now_rows v_now_cols v_now_high v_now_wide v_now_folds v_now_wrong v_now_more v_now_rowOf v_now_colOf v_now_below v_now_face v_now_worn v_now_last v_now_bend v_now_tall v_kept_rows v_kept_cols v_kept_high v_kept_wide v_kept_folds v_kept_wrong v_kept_more v_kept_rowOf v_kept_colOf v_kept_below v_kept_face v_kept_worn v_kept_last v_kept_bend v_kept_tall v_wearing_size v_wearing_stepCount v_wearing_draftCount v_wearing_place v_wearing_fault v_wearing_stacked v_wearing_tape v_wearing_steps v_wearing_draft v_wearing_stack v_planned_size v_planned_trial_rows v_planned_trial_cols v_planned_trial_high v_planned_trial_wide v_planned_trial_folds v_planned_trial_wrong v_planned_trial_more v_planned_trial_rowOf v_planned_trial_colOf v_planned_trial_below v_planned_trial_face v_planned_trial_worn v_planned_trial_last v_planned_trial_bend v_planned_trial_tall v_planned_lines v_planned_ways v_search_found v_search_wrong v_search_more v_search_folds v_search_wanted v_search_levels0_rows v_search_levels0_cols v_search_levels0_high v_search_levels0_wide v_search_levels0_folds v_search_levels0_wrong v_search_levels0_more v_search_levels0_rowOf v_search_levels0_colOf v_search_levels0_below v_search_levels0_face v_search_levels0_worn v_search_levels0_last v_search_levels0_bend v_search_levels0_tall v_search_levels1_rows v_search_levels1_cols v_search_levels1_high v_search_levels1_wide v_search_levels1_folds v_search_levels1_wrong v_search_levels1_more v_search_levels1_rowOf v_search_levels1_colOf v_search_levels1_below v_search_levels1_face v_search_levels1_worn v_search_levels1_last v_search_levels1_bend v_search_levels1_tall v_search_levels2_rows v_search_levels2_cols v_search_levels2_high v_search_levels2_wide v_search_levels2_folds v_search_levels2_wrong v_search_levels2_more v_search_levels2_rowOf v_search_levels2_colOf v_search_levels2_below v_search_levels2_face v_search_levels2_worn v_search_levels2_last v_search_levels2_bend v_search_levels2_tall v_search_levels3_rows v_search_levels3_cols v_search_levels3_high v_search_levels3_wide v_search_levels3_folds v_search_levels3_wrong v_search_levels3_more v_search_levels3_rowOf v_search_levels3_colOf v_search_levels3_below v_search_levels3_face v_search_levels3_worn v_search_levels3_last v_search_levels3_bend v_search_levels3_tall v_search_path v_search_best v_strip_list v_strip_found v_strip_at v_changes_value v_changes_done v_changes_size v_changes_before v_changes_after v_foldings_size v_foldings_ran v_foldings_number v_foldings_kinds v_foldings_trace v_shelves0_holds v_shelves0_body v_shelves0_sort v_shelves0_size v_shelves0_items v_shelves1_holds v_shelves1_body v_shelves1_sort v_shelves1_size v_shelves1_items v_shelves2_holds v_shelves2_body v_shelves2_sort v_shelves2_size v_shelves2_items v_shelves3_holds v_shelves3_body v_shelves3_sort v_shelves3_size v_shelves3_items v_shelves4_holds v_shelves4_body v_shelves4_sort v_shelves4_size v_shelves4_items v_shelves5_holds v_shelves5_body v_shelves5_sort v_shelves5_size (mm_cp v_shelves4_items v_shelves5_items x2 x4 x5))) rfl (fun H locs hP hD hS => ?_)
                                            generalize el_461 : (mm_cp v_shelves4_items v_shelves5_items x2 x4 x5) = l_461 at hP hD
                                            have hf := mm_nms hf el_461.symm
                                            refine lv_iload hx hb dX8_shift_134 (lv_at hl 7 rfl) ?_
                                            apply mm_sub7 hf
                                            exact mm_iret C0 hP hD hS dX8_shift_136
                                          · have hf := mm_ip hf (mm_b0 c_459)
                                            refine lv_bipush (v := -13) hx hb dX8_shift_113 (by decide) ?_
                                            apply mm_sub7 hf
                                            exact mm_iret C0 hP hD hS dX8_shift_115
                                    · have hf := mm_in hf c_452
                                      refine lv_bipush (v := -12) hx hb dX8_shift_82 (by decide) ?_
                                      apply mm_sub7 hf
                                      exact mm_iret C0 hP hD hS dX8_shift_84
                              · have hf := mm_ip hf c_449
                                refine lv_bipush (v := -11) hx hb dX8_shift_48 (by decide) ?_
                                apply mm_sub7 hf
                                exact mm_iret C0 hP hD hS dX8_shift_50
                          · have hf := mm_in hf c_447
                            cases hf
              · have hf := mm_in hf c_371
                by_cases c_462 : x1 = (5 : Int32)
                · have hf := mm_ip hf c_462
                  refine mm_aald 3 rfl C0 hP 86 rfl (b := a 97) (by rw [c_462]; rfl) (by rw [c_462]; rfl) dX8_shift_21 ?_
                  refine lv_astore (lv' := [(6, .ref (a 97)), (0, .ref (a 0)), (1, .int x1), (2, .int x2), (3, .int x3), (4, .int x4), (5, .int x5)]) hx hb dX8_shift_22 hl (by decide) rfl (fun ls hl => ?_)
                  refine lv_aload_n hx hb dX8_shift_24 rfl (lv_at hl 1 rfl) ?_
                  refine mm_get C0 hP iw_X8 0 rfl rfl 8 (by decide) fl_X8_63 rfl dX8_shift_25 ?_
                  refine lv_iload_n hx hb dX8_shift_28 rfl (lv_at hl 4 rfl) ?_
                  by_cases c_463 : x3 = (0 : Int32)
                  · have hf := mm_ip hf c_463
                    refine mm_aald 3 rfl C0 hP 86 rfl (b := a 87) (by rw [c_463]; rfl) (by rw [c_463]; rfl) dX8_shift_29 ?_
                    refine lv_astore (lv' := [(7, .ref (a 87)), (6, .ref (a 97)), (0, .ref (a 0)), (1, .int x1), (2, .int x2), (3, .int x3), (4, .int x4), (5, .int x5)]) hx hb dX8_shift_30 hl (by decide) rfl (fun ls hl => ?_)
                    refine lv_aload hx hb dX8_shift_32 (lv_at hl 1 rfl) ?_
                    refine mm_get C0 hP iw_X6 97 rfl rfl 0 (by decide) fl_X8_168 rfl dX8_shift_34 ?_
                    refine lv_if_eq (tgt := 48) hx hb dX8_shift_37 (by decide) (fun c_464 => ?_) (fun c_464 => ?_)
                    · have hf := mm_ip hf c_464
                      refine lv_bipush (v := -11) hx hb dX8_shift_48 (by decide) ?_
                      apply mm_sub7 hf
                      exact mm_iret C0 hP hD hS dX8_shift_50
                    · have hf := mm_in hf c_464
                      refine lv_aload hx hb dX8_shift_40 (lv_at hl 0 rfl) ?_
                      refine mm_get C0 hP iw_X6 87 rfl rfl 0 (by decide) fl_X8_168 rfl dX8_shift_42 ?_
                      refine lv_if_ne (tgt := 51) hx hb dX8_shift_45 (by decide) (fun c_465 => ?_) (fun c_465 => ?_)
                      · have hf := mm_in hf c_465
                        refine lv_aload hx hb dX8_shift_51 (lv_at hl 1 rfl) ?_
                        refine mm_get C0 hP iw_X6 97 rfl rfl 0 (by decide) fl_X8_168 rfl dX8_shift_53 ?_
                        refine lv_iconst (v := 2) hx hb dX8_shift_56 (by decide) ?_
                        refine lv_icmp_ne (tgt := 82) hx hb dX8_shift_57 (by decide) (fun c_466 => ?_) (fun c_466 => ?_)
                        · have hf := mm_in hf c_466
                          refine lv_bipush (v := -12) hx hb dX8_shift_82 (by decide) ?_
                          apply mm_sub7 hf
                          exact mm_iret C0 hP hD hS dX8_shift_84
                        · have hf := mm_ip hf c_466
                          refine lv_aload hx hb dX8_shift_60 (lv_at hl 0 rfl) ?_
                          refine mm_get C0 hP iw_X6 87 rfl rfl 0 (by decide) fl_X8_168 rfl dX8_shift_62 ?_
                          refine lv_iconst (v := 2) hx hb dX8_shift_65 (by decide) ?_
                          refine lv_icmp_ne (tgt := 82) hx hb dX8_shift_66 (by decide) (fun c_467 => ?_) (fun c_467 => ?_)
                          · have hf := mm_in hf c_467
                            refine lv_bipush (v := -12) hx hb dX8_shift_82 (by decide) ?_
                            apply mm_sub7 hf
                            exact mm_iret C0 hP hD hS dX8_shift_84
                          · have hf := mm_ip hf c_467
                            refine lv_aload hx hb dX8_shift_69 (lv_at hl 1 rfl) ?_
                            refine mm_get C0 hP iw_X6 97 rfl rfl 2 (by decide) fl_X8_171 rfl dX8_shift_71 ?_
                            refine lv_aload hx hb dX8_shift_74 (lv_at hl 0 rfl) ?_
                            refine mm_get C0 hP iw_X6 87 rfl rfl 2 (by decide) fl_X8_171 rfl dX8_shift_76 ?_
                            refine lv_icmp_eq (tgt := 85) hx hb dX8_shift_79 (by decide) (fun c_468 => ?_) (fun c_468 => ?_)
                            · have hf := mm_ip hf c_468
                              refine lv_iload hx hb dX8_shift_85 (lv_at hl 7 rfl) ?_
                              refine lv_if_lt (tgt := 113) hx hb dX8_shift_87 (by decide) (fun c_469 => ?_) (fun c_469 => ?_)
                              · have hf := mm_ip hf c_469
                                refine lv_bipush (v := -13) hx hb dX8_shift_113 (by decide) ?_
                                apply mm_sub7 hf
                                exact mm_iret C0 hP hD hS dX8_shift_115
                              · have hf := mm_in hf c_469
                                refine lv_aload hx hb dX8_shift_90 (lv_at hl 1 rfl) ?_
                                refine lv_iload_n hx hb dX8_shift_92 rfl (lv_at hl 4 rfl) ?_
                                refine lv_iload hx hb dX8_shift_93 (lv_at hl 7 rfl) ?_
                                obtain ⟨r_470, hc_471, hf⟩ := mm_bd1s hf
                                refine mm_callW (q0 := 97) (ci := 6) (w2 := (wd_X8 cI cL cS cH a v_hasImage v_now_rows v_now_cols v_now_high v_now_wide v_now_folds v_now_wrong v_now_more v_now_rowOf v_now_colOf v_now_below v_now_face v_now_worn v_now_last v_now_bend v_now_tall v_kept_rows v_kept_cols v_kept_high v_kept_wide v_kept_folds v_kept_wrong v_kept_more v_kept_rowOf v_kept_colOf v_kept_below v_kept_face v_kept_worn v_kept_last v_kept_bend v_kept_tall v_wearing_size v_wearing_stepCount v_wearing_draftCount v_wearing_place v_wearing_fault v_wearing_stacked v_wearing_tape v_wearing_steps v_wearing_draft v_wearing_stack v_planned_size v_planned_trial_rows v_planned_trial_cols v_planned_trial_high v_planned_trial_wide v_planned_trial_folds v_planned_trial_wrong v_planned_trial_more v_planned_trial_rowOf v_planned_trial_colOf v_planned_trial_below v_planned_trial_face v_planned_trial_worn v_planned_trial_last v_planned_trial_bend v_planned_trial_tall v_planned_lines v_planned_ways v_search_found v_search_wrong v_search_more v_search_folds v_search_wanted v_search_levels0_rows v_search_levels0_cols v_search_levels0_high v_search_levels0_wide v_search_levels0_folds v_search_levels0_wrong v_search_levels0_more v_search_levels0_rowOf v_search_levels0_colOf v_search_levels0_below v_search_levels0_face v_search_levels0_worn v_search_levels0_last v_search_levels0_bend v_search_levels0_tall v_search_levels1_rows v_search_levels1_cols v_search_levels1_high v_search_levels1_wide v_search_levels1_folds v_search_levels1_wrong v_search_levels1_more v_search_levels1_rowOf v_search_levels1_colOf v_search_levels1_below v_search_levels1_face v_search_levels1_worn v_search_levels1_last v_search_levels1_bend v_search_levels1_tall v_search_levels2_rows v_search_levels2_cols v_search_levels2_high v_search_levels2_wide v_search_levels2_folds v_search_levels2_wrong v_search_levels2_more v_search_levels2_rowOf v_search_levels2_colOf v_search_levels2_below v_search_levels2_face v_search_levels2_worn v_search_levels2_last v_search_levels2_bend v_search_levels2_tall v_search_levels3_rows v_search_levels3_cols v_search_levels3_high v_search_levels3_wide v_search_levels3_folds v_search_levels3_wrong v_search_levels3_more v_search_levels3_rowOf v_search_levels3_colOf v_search_levels3_below v_search_levels3_face v_search_levels3_worn v_search_levels3_last v_search_levels3_bend v_search_levels3_tall v_search_path v_search_best v_strip_list v_strip_found v_strip_at v_changes_value v_changes_done v_changes_size v_changes_before v_changes_after v_foldings_size v_foldings_ran v_foldings_number v_foldings_kinds v_foldings_trace v_shelves0_holds v_shelves0_body v_shelves0_sort v_shelves0_size v_shelves0_items v_shelves1_holds v_shelves1_body v_shelves1_sort v_shelves1_size v_shelves1_items v_shelves2_holds v_shelves2_body v_shelves2_sort v_shelves2_size v_shelves2_items v_shelves3_holds v_shelves3_body v_shelves3_sort v_shelves3_size v_shelves3_items v_shelves4_holds v_shelves4_body v_shelves4_sort v_shelves4_size v_shelves4_items v_shelves5_holds v_shelves5_body v_shelves5_sort v_shelves5_size v_shelves5_items)) (rest := []) C0 lk_X8_303 (ctX6_hasPart (a := (fun k => a (k + 97))) (d := d - 1) (by omega) hc_471) (by omega) rfl hl.1 rfl (mm_cat rfl) dX8_shift_95 hP hD hA hS rfl rfl [false, false, false, false, false, false, false, false, false, false, false, false, false, false, false, false, false, false, false, false, false, false, false, false, false, false, false, false, false, false, false, false, false, false, false, false, false, false, false, false, false, false, false, false, false, false, false, false, false, false, false, false, false, false, false, false, false, false, false, false, false, false, false, false, false, false, false, false, false, false, false, false, false, false, false, false, false, false, false, false, false, false, false, false, false, false, false, false, false, false, false, false, false, false, false, false, false, true, true] rfl rfl rfl rfl (fun H locs hP hD hS => ?_)
                                refine W.eq (g2 := F0 m 98 ls [.int (mm_b r_470)]) rfl ?_
                                refine lv_if_eq (tgt := 113) hx hb dX8_shift_98 (by decide) (fun c_472 => ?_) (fun c_472 => ?_)
                                · have hf := mm_ip hf (mm_b0 c_472)
                                  refine lv_bipush (v := -13) hx hb dX8_shift_113 (by decide) ?_
                                  apply mm_sub7 hf
                                  exact mm_iret C0 hP hD hS dX8_shift_115
                                · have hf := mm_in hf (mm_b1 c_472)
                                  refine lv_aload hx hb dX8_shift_101 (lv_at hl 0 rfl) ?_
                                  refine lv_iload hx hb dX8_shift_103 (lv_at hl 6 rfl) ?_
                                  refine lv_iload hx hb dX8_shift_105 (lv_at hl 7 rfl) ?_
                                  obtain ⟨r_473, hc_474, hf⟩ := mm_bd1s hf
                                  refine mm_callW (q0 := 87) (ci := 6) (w2 := (wd_X8 cI cL cS cH a v_hasImage v_now_rows v_now_cols v_now_high v_now_wide v_now_folds v_now_wrong v_now_more v_now_rowOf v_now_colOf v_now_below v_now_face v_now_worn v_now_last v_now_bend v_now_tall v_kept_rows v_kept_cols v_kept_high v_kept_wide v_kept_folds v_kept_wrong v_kept_more v_kept_rowOf v_kept_colOf v_kept_below v_kept_face v_kept_worn v_kept_last v_kept_bend v_kept_tall v_wearing_size v_wearing_stepCount v_wearing_draftCount v_wearing_place v_wearing_fault v_wearing_stacked v_wearing_tape v_wearing_steps v_wearing_draft v_wearing_stack v_planned_size v_planned_trial_rows v_planned_trial_cols v_planned_trial_high v_planned_trial_wide v_planned_trial_folds v_planned_trial_wrong v_planned_trial_more v_planned_trial_rowOf v_planned_trial_colOf v_planned_trial_below v_planned_trial_face v_planned_trial_worn v_planned_trial_last v_planned_trial_bend v_planned_trial_tall v_planned_lines v_planned_ways v_search_found v_search_wrong v_search_more v_search_folds v_search_wanted v_search_levels0_rows v_search_levels0_cols v_search_levels0_high v_search_levels0_wide v_search_levels0_folds v_search_levels0_wrong v_search_levels0_more v_search_levels0_rowOf v_search_levels0_colOf v_search_levels0_below v_search_levels0_face v_search_levels0_worn v_search_levels0_last v_search_levels0_bend v_search_levels0_tall v_search_levels1_rows v_search_levels1_cols v_search_levels1_high v_search_levels1_wide v_search_levels1_folds v_search_levels1_wrong v_search_levels1_more v_search_levels1_rowOf v_search_levels1_colOf v_search_levels1_below v_search_levels1_face v_search_levels1_worn v_search_levels1_last v_search_levels1_bend v_search_levels1_tall v_search_levels2_rows v_search_levels2_cols v_search_levels2_high v_search_levels2_wide v_search_levels2_folds v_search_levels2_wrong v_search_levels2_more v_search_levels2_rowOf v_search_levels2_colOf v_search_levels2_below v_search_levels2_face v_search_levels2_worn v_search_levels2_last v_search_levels2_bend v_search_levels2_tall v_search_levels3_rows v_search_levels3_cols v_search_levels3_high v_search_levels3_wide v_search_levels3_folds v_search_levels3_wrong v_search_levels3_more v_search_levels3_rowOf v_search_levels3_colOf v_search_levels3_below v_search_levels3_face v_search_levels3_worn v_search_levels3_last v_search_levels3_bend v_search_levels3_tall v_search_path v_search_best v_strip_list v_strip_found v_strip_at v_changes_value v_changes_done v_changes_size v_changes_before v_changes_after v_foldings_size v_foldings_ran v_foldings_number v_foldings_kinds v_foldings_trace v_shelves0_holds v_shelves0_body v_shelves0_sort v_shelves0_size v_shelves0_items v_shelves1_holds v_shelves1_body v_shelves1_sort v_shelves1_size v_shelves1_items v_shelves2_holds v_shelves2_body v_shelves2_sort v_shelves2_size v_shelves2_items v_shelves3_holds v_shelves3_body v_shelves3_sort v_shelves3_size v_shelves3_items v_shelves4_holds v_shelves4_body v_shelves4_sort v_shelves4_size v_shelves4_items v_shelves5_holds v_shelves5_body v_shelves5_sort v_shelves5_size v_shelves5_items)) (rest := []) C0 lk_X8_303 (ctX6_hasPart (a := (fun k => a (k + 87))) (d := d - 1) (by omega) hc_474) (by omega) rfl hl.1 rfl (mm_cat rfl) dX8_shift_107 hP hD hA hS rfl rfl [false, false, false, false, false, false, false, false, false, false, false, false, false, false, false, false, false, false, false, false, false, false, false, false, false, false, false, false, false, false, false, false, false, false, false, false, false, false, false, false, false, false, false, false, false, false, false, false, false, false, false, false, false, false, false, false, false, false, false, false, false, false, false, false, false, false, false, false, false, false, false, false, false, false, false, false, false, false, false, false, false, false, false, false, false, false, false, true, true, false, false, false, false, false, false, false, false, false, false] rfl rfl rfl rfl (fun H locs hP hD hS => ?_)
                                  refine W.eq (g2 := F0 m 110 ls [.int (mm_b r_473)]) rfl ?_
                                  refine lv_if_ne (tgt := 116) hx hb dX8_shift_110 (by decide) (fun c_475 => ?_) (fun c_475 => ?_)
                                  · have hf := mm_in hf (mm_b1 c_475)
                                    refine lv_aload hx hb dX8_shift_116 (lv_at hl 1 rfl) ?_
                                    refine mm_get C0 hP iw_X6 97 rfl rfl 4 (by decide) fl_X8_299 rfl dX8_shift_118 ?_
                                    refine lv_iload_n hx hb dX8_shift_121 rfl (lv_at hl 4 rfl) ?_
                                    refine lv_aload hx hb dX8_shift_122 (lv_at hl 0 rfl) ?_
                                    refine mm_get C0 hP iw_X6 87 rfl rfl 4 (by decide) fl_X8_299 rfl dX8_shift_124 ?_
                                    refine lv_iload hx hb dX8_shift_127 (lv_at hl 6 rfl) ?_
                                    refine lv_iload hx hb dX8_shift_129 (lv_at hl 7 rfl) ?_
                                    obtain ⟨h_476, hf⟩ := mm_cks hf
                                    refine mm_copyl C0 la_X8_306 hP hD hS 98 88 rfl rfl h_476 hl.1 (by omega) (mm_cat rfl) dX8_shift_131 (w2 := (wd_X8 cI cL cS cH a v_hasImage v_now_rows v_now_cols v_now_high v_now_wide v_now_folds v_now_wrong v_now_more v_now_rowOf v_now_colOf v_now_below v_now_face v_now_worn v_now_last v_now_bend v_now_tall v_kept_rows v_kept_cols v_kept_high v_kept_wide v_kept_folds v_kept_wrong v_kept_more v_kept_rowOf v_kept_colOf v_kept_below v_kept_face v_kept_worn v_kept_last v_kept_bend v_kept_tall v_wearing_size v_wearing_stepCount v_wearing_draftCount v_wearing_place v_wearing_fault v_wearing_stacked v_wearing_tape v_wearing_steps v_wearing_draft v_wearing_stack v_planned_size v_planned_trial_rows v_planned_trial_cols v_planned_trial_high v_planned_trial_wide v_planned_trial_folds v_planned_trial_wrong v_planned_trial_more v_planned_trial_rowOf v_planned_trial_colOf v_planned_trial_below v_planned_trial_face v_planned_trial_worn v_planned_trial_last v_planned_trial_bend v_planned_trial_tall v_planned_lines v_planned_ways v_search_found v_search_wrong v_search_more v_search_folds v_search_wanted v_search_levels0_rows v_search_levels0_cols v_search_levels0_high v_search_levels0_wide v_search_levels0_folds v_search_levels0_wrong v_search_levels0_more v_search_levels0_rowOf v_search_levels0_colOf v_search_levels0_below v_search_levels0_face v_search_levels0_worn v_search_levels0_last v_search_levels0_bend v_search_levels0_tall v_search_levels1_rows v_search_levels1_cols v_search_levels1_high v_search_levels1_wide v_search_levels1_folds v_search_levels1_wrong v_search_levels1_more v_search_levels1_rowOf v_search_levels1_colOf v_search_levels1_below v_search_levels1_face v_search_levels1_worn v_search_levels1_last v_search_levels1_bend v_search_levels1_tall v_search_levels2_rows v_search_levels2_cols v_search_levels2_high v_search_levels2_wide v_search_levels2_folds v_search_levels2_wrong v_search_levels2_more v_search_levels2_rowOf v_search_levels2_colOf v_search_levels2_below v_search_levels2_face v_search_levels2_worn v_search_levels2_last v_search_levels2_bend v_search_levels2_tall v_search_levels3_rows v_search_levels3_cols v_search_levels3_high v_search_levels3_wide v_search_levels3_folds v_search_levels3_wrong v_search_levels3_more v_search_levels3_rowOf v_search_levels3_colOf v_search_levels3_below v_search_levels3_face v_search_levels3_worn v_search_levels3_last v_search_levels3_bend v_search_levels3_tall v_search_path v_search_best v_strip_list v_strip_found v_strip_at v_changes_value v_changes_done v_changes_size v_changes_before v_changes_after v_foldings_size v_foldings_ran v_foldings_number v_foldings_kinds v_foldings_trace v_shelves0_holds v_shelves0_body v_shelves0_sort v_shelves0_size (mm_cp v_shelves5_items v_shelves0_items x2 x4 x5) v_shelves1_holds v_shelves1_body v_shelves1_sort v_shelves1_size v_shelves1_items v_shelves2_holds v_shelves2_body v_shelves2_sort v_shelves2_size v_shelves2_items v_shelves3_holds v_shelves3_body v_shelves3_sort v_shelves3_size v_shelves3_items v_shelves4_holds v_shelves4_body v_shelves4_sort v_shelves4_size v_shelves4_items v_shelves5_holds v_shelves5_body v_shelves5_sort v_shelves5_size v_shelves5_items)) rfl (fun H locs hP hD hS => ?_)
                                    generalize el_477 : (mm_cp v_shelves5_items v_shelves0_items x2 x4 x5) = l_477 at hP hD
                                    have hf := mm_nms hf el_477.symm
                                    refine lv_iload hx hb dX8_shift_134 (lv_at hl 7 rfl) ?_
                                    apply mm_sub7 hf
                                    exact mm_iret C0 hP hD hS dX8_shift_136
                                  · have hf := mm_ip hf (mm_b0 c_475)
                                    refine lv_bipush (v := -13) hx hb dX8_shift_113 (by decide) ?_
                                    apply mm_sub7 hf
                                    exact mm_iret C0 hP hD hS dX8_shift_115
                            · have hf := mm_in hf c_468
                              refine lv_bipush (v := -12) hx hb dX8_shift_82 (by decide) ?_
                              apply mm_sub7 hf
                              exact mm_iret C0 hP hD hS dX8_shift_84
                      · have hf := mm_ip hf c_465
                        refine lv_bipush (v := -11) hx hb dX8_shift_48 (by decide) ?_
                        apply mm_sub7 hf
                        exact mm_iret C0 hP hD hS dX8_shift_50
                  · have hf := mm_in hf c_463
                    by_cases c_478 : x3 = (1 : Int32)
                    · have hf := mm_ip hf c_478
                      refine mm_aald 3 rfl C0 hP 86 rfl (b := a 89) (by rw [c_478]; rfl) (by rw [c_478]; rfl) dX8_shift_29 ?_
                      refine lv_astore (lv' := [(7, .ref (a 89)), (6, .ref (a 97)), (0, .ref (a 0)), (1, .int x1), (2, .int x2), (3, .int x3), (4, .int x4), (5, .int x5)]) hx hb dX8_shift_30 hl (by decide) rfl (fun ls hl => ?_)
                      refine lv_aload hx hb dX8_shift_32 (lv_at hl 1 rfl) ?_
                      refine mm_get C0 hP iw_X6 97 rfl rfl 0 (by decide) fl_X8_168 rfl dX8_shift_34 ?_
                      refine lv_if_eq (tgt := 48) hx hb dX8_shift_37 (by decide) (fun c_479 => ?_) (fun c_479 => ?_)
                      · have hf := mm_ip hf c_479
                        refine lv_bipush (v := -11) hx hb dX8_shift_48 (by decide) ?_
                        apply mm_sub7 hf
                        exact mm_iret C0 hP hD hS dX8_shift_50
                      · have hf := mm_in hf c_479
                        refine lv_aload hx hb dX8_shift_40 (lv_at hl 0 rfl) ?_
                        refine mm_get C0 hP iw_X6 89 rfl rfl 0 (by decide) fl_X8_168 rfl dX8_shift_42 ?_
                        refine lv_if_ne (tgt := 51) hx hb dX8_shift_45 (by decide) (fun c_480 => ?_) (fun c_480 => ?_)
                        · have hf := mm_in hf c_480
                          refine lv_aload hx hb dX8_shift_51 (lv_at hl 1 rfl) ?_
                          refine mm_get C0 hP iw_X6 97 rfl rfl 0 (by decide) fl_X8_168 rfl dX8_shift_53 ?_
                          refine lv_iconst (v := 2) hx hb dX8_shift_56 (by decide) ?_
                          refine lv_icmp_ne (tgt := 82) hx hb dX8_shift_57 (by decide) (fun c_481 => ?_) (fun c_481 => ?_)
                          · have hf := mm_in hf c_481
                            refine lv_bipush (v := -12) hx hb dX8_shift_82 (by decide) ?_
                            apply mm_sub7 hf
                            exact mm_iret C0 hP hD hS dX8_shift_84
                          · have hf := mm_ip hf c_481
                            refine lv_aload hx hb dX8_shift_60 (lv_at hl 0 rfl) ?_
                            refine mm_get C0 hP iw_X6 89 rfl rfl 0 (by decide) fl_X8_168 rfl dX8_shift_62 ?_
                            refine lv_iconst (v := 2) hx hb dX8_shift_65 (by decide) ?_
                            refine lv_icmp_ne (tgt := 82) hx hb dX8_shift_66 (by decide) (fun c_482 => ?_) (fun c_482 => ?_)
                            · have hf := mm_in hf c_482
                              refine lv_bipush (v := -12) hx hb dX8_shift_82 (by decide) ?_
                              apply mm_sub7 hf
                              exact mm_iret C0 hP hD hS dX8_shift_84
                            · have hf := mm_ip hf c_482
                              refine lv_aload hx hb dX8_shift_69 (lv_at hl 1 rfl) ?_
                              refine mm_get C0 hP iw_X6 97 rfl rfl 2 (by decide) fl_X8_171 rfl dX8_shift_71 ?_
                              refine lv_aload hx hb dX8_shift_74 (lv_at hl 0 rfl) ?_
                              refine mm_get C0 hP iw_X6 89 rfl rfl 2 (by decide) fl_X8_171 rfl dX8_shift_76 ?_
                              refine lv_icmp_eq (tgt := 85) hx hb dX8_shift_79 (by decide) (fun c_483 => ?_) (fun c_483 => ?_)
                              · have hf := mm_ip hf c_483
                                refine lv_iload hx hb dX8_shift_85 (lv_at hl 7 rfl) ?_
                                refine lv_if_lt (tgt := 113) hx hb dX8_shift_87 (by decide) (fun c_484 => ?_) (fun c_484 => ?_)
                                · have hf := mm_ip hf c_484
                                  refine lv_bipush (v := -13) hx hb dX8_shift_113 (by decide) ?_
                                  apply mm_sub7 hf
                                  exact mm_iret C0 hP hD hS dX8_shift_115
                                · have hf := mm_in hf c_484
                                  refine lv_aload hx hb dX8_shift_90 (lv_at hl 1 rfl) ?_
                                  refine lv_iload_n hx hb dX8_shift_92 rfl (lv_at hl 4 rfl) ?_
                                  refine lv_iload hx hb dX8_shift_93 (lv_at hl 7 rfl) ?_
                                  obtain ⟨r_485, hc_486, hf⟩ := mm_bd1s hf
                                  refine mm_callW (q0 := 97) (ci := 6) (w2 := (wd_X8 cI cL cS cH a v_hasImage v_now_rows v_now_cols v_now_high v_now_wide v_now_folds v_now_wrong v_now_more v_now_rowOf v_now_colOf v_now_below v_now_face v_now_worn v_now_last v_now_bend v_now_tall v_kept_rows v_kept_cols v_kept_high v_kept_wide v_kept_folds v_kept_wrong v_kept_more v_kept_rowOf v_kept_colOf v_kept_below v_kept_face v_kept_worn v_kept_last v_kept_bend v_kept_tall v_wearing_size v_wearing_stepCount v_wearing_draftCount v_wearing_place v_wearing_fault v_wearing_stacked v_wearing_tape v_wearing_steps v_wearing_draft v_wearing_stack v_planned_size v_planned_trial_rows v_planned_trial_cols v_planned_trial_high v_planned_trial_wide v_planned_trial_folds v_planned_trial_wrong v_planned_trial_more v_planned_trial_rowOf v_planned_trial_colOf v_planned_trial_below v_planned_trial_face v_planned_trial_worn v_planned_trial_last v_planned_trial_bend v_planned_trial_tall v_planned_lines v_planned_ways v_search_found v_search_wrong v_search_more v_search_folds v_search_wanted v_search_levels0_rows v_search_levels0_cols v_search_levels0_high v_search_levels0_wide v_search_levels0_folds v_search_levels0_wrong v_search_levels0_more v_search_levels0_rowOf v_search_levels0_colOf v_search_levels0_below v_search_levels0_face v_search_levels0_worn v_search_levels0_last v_search_levels0_bend v_search_levels0_tall v_search_levels1_rows v_search_levels1_cols v_search_levels1_high v_search_levels1_wide v_search_levels1_folds v_search_levels1_wrong v_search_levels1_more v_search_levels1_rowOf v_search_levels1_colOf v_search_levels1_below v_search_levels1_face v_search_levels1_worn v_search_levels1_last v_search_levels1_bend v_search_levels1_tall v_search_levels2_rows v_search_levels2_cols v_search_levels2_high v_search_levels2_wide v_search_levels2_folds v_search_levels2_wrong v_search_levels2_more v_search_levels2_rowOf v_search_levels2_colOf v_search_levels2_below v_search_levels2_face v_search_levels2_worn v_search_levels2_last v_search_levels2_bend v_search_levels2_tall v_search_levels3_rows v_search_levels3_cols v_search_levels3_high v_search_levels3_wide v_search_levels3_folds v_search_levels3_wrong v_search_levels3_more v_search_levels3_rowOf v_search_levels3_colOf v_search_levels3_below v_search_levels3_face v_search_levels3_worn v_search_levels3_last v_search_levels3_bend v_search_levels3_tall v_search_path v_search_best v_strip_list v_strip_found v_strip_at v_changes_value v_changes_done v_changes_size v_changes_before v_changes_after v_foldings_size v_foldings_ran v_foldings_number v_foldings_kinds v_foldings_trace v_shelves0_holds v_shelves0_body v_shelves0_sort v_shelves0_size v_shelves0_items v_shelves1_holds v_shelves1_body v_shelves1_sort v_shelves1_size v_shelves1_items v_shelves2_holds v_shelves2_body v_shelves2_sort v_shelves2_size v_shelves2_items v_shelves3_holds v_shelves3_body v_shelves3_sort v_shelves3_size v_shelves3_items v_shelves4_holds v_shelves4_body v_shelves4_sort v_shelves4_size v_shelves4_items v_shelves5_holds v_shelves5_body v_shelves5_sort v_shelves5_size v_shelves5_items)) (rest := []) C0 lk_X8_303 (ctX6_hasPart (a := (fun k => a (k + 97))) (d := d - 1) (by omega) hc_486) (by omega) rfl hl.1 rfl (mm_cat rfl) dX8_shift_95 hP hD hA hS rfl rfl [false, false, false, false, false, false, false, false, false, false, false, false, false, false, false, false, false, false, false, false, false, false, false, false, false, false, false, false, false, false, false, false, false, false, false, false, false, false, false, false, false, false, false, false, false, false, false, false, false, false, false, false, false, false, false, false, false, false, false, false, false, false, false, false, false, false, false, false, false, false, false, false, false, false, false, false, false, false, false, false, false, false, false, false, false, false, false, false, false, false, false, false, false, false, false, false, false, true, true] rfl rfl rfl rfl (fun H locs hP hD hS => ?_)
                                  refine W.eq (g2 := F0 m 98 ls [.int (mm_b r_485)]) rfl ?_
                                  refine lv_if_eq (tgt := 113) hx hb dX8_shift_98 (by decide) (fun c_487 => ?_) (fun c_487 => ?_)
                                  · have hf := mm_ip hf (mm_b0 c_487)
                                    refine lv_bipush (v := -13) hx hb dX8_shift_113 (by decide) ?_
                                    apply mm_sub7 hf
                                    exact mm_iret C0 hP hD hS dX8_shift_115
                                  · have hf := mm_in hf (mm_b1 c_487)
                                    refine lv_aload hx hb dX8_shift_101 (lv_at hl 0 rfl) ?_
                                    refine lv_iload hx hb dX8_shift_103 (lv_at hl 6 rfl) ?_
                                    refine lv_iload hx hb dX8_shift_105 (lv_at hl 7 rfl) ?_
                                    obtain ⟨r_488, hc_489, hf⟩ := mm_bd1s hf
                                    refine mm_callW (q0 := 89) (ci := 6) (w2 := (wd_X8 cI cL cS cH a v_hasImage v_now_rows v_now_cols v_now_high v_now_wide v_now_folds v_now_wrong v_now_more v_now_rowOf v_now_colOf v_now_below v_now_face v_now_worn v_now_last v_now_bend v_now_tall v_kept_rows v_kept_cols v_kept_high v_kept_wide v_kept_folds v_kept_wrong v_kept_more v_kept_rowOf v_kept_colOf v_kept_below v_kept_face v_kept_worn v_kept_last v_kept_bend v_kept_tall v_wearing_size v_wearing_stepCount v_wearing_draftCount v_wearing_place v_wearing_fault v_wearing_stacked v_wearing_tape v_wearing_steps v_wearing_draft v_wearing_stack v_planned_size v_planned_trial_rows v_planned_trial_cols v_planned_trial_high v_planned_trial_wide v_planned_trial_folds v_planned_trial_wrong v_planned_trial_more v_planned_trial_rowOf v_planned_trial_colOf v_planned_trial_below v_planned_trial_face v_planned_trial_worn v_planned_trial_last v_planned_trial_bend v_planned_trial_tall v_planned_lines v_planned_ways v_search_found v_search_wrong v_search_more v_search_folds v_search_wanted v_search_levels0_rows v_search_levels0_cols v_search_levels0_high v_search_levels0_wide v_search_levels0_folds v_search_levels0_wrong v_search_levels0_more v_search_levels0_rowOf v_search_levels0_colOf v_search_levels0_below v_search_levels0_face v_search_levels0_worn v_search_levels0_last v_search_levels0_bend v_search_levels0_tall v_search_levels1_rows v_search_levels1_cols v_search_levels1_high v_search_levels1_wide v_search_levels1_folds v_search_levels1_wrong v_search_levels1_more v_search_levels1_rowOf v_search_levels1_colOf v_search_levels1_below v_search_levels1_face v_search_levels1_worn v_search_levels1_last v_search_levels1_bend v_search_levels1_tall v_search_levels2_rows v_search_levels2_cols v_search_levels2_high v_search_levels2_wide v_search_levels2_folds v_search_levels2_wrong v_search_levels2_more v_search_levels2_rowOf v_search_levels2_colOf v_search_levels2_below v_search_levels2_face v_search_levels2_worn v_search_levels2_last v_search_levels2_bend v_search_levels2_tall v_search_levels3_rows v_search_levels3_cols v_search_levels3_high v_search_levels3_wide v_search_levels3_folds v_search_levels3_wrong v_search_levels3_more v_search_levels3_rowOf v_search_levels3_colOf v_search_levels3_below v_search_levels3_face v_search_levels3_worn v_search_levels3_last v_search_levels3_bend v_search_levels3_tall v_search_path v_search_best v_strip_list v_strip_found v_strip_at v_changes_value v_changes_done v_changes_size v_changes_before v_changes_after v_foldings_size v_foldings_ran v_foldings_number v_foldings_kinds v_foldings_trace v_shelves0_holds v_shelves0_body v_shelves0_sort v_shelves0_size v_shelves0_items v_shelves1_holds v_shelves1_body v_shelves1_sort v_shelves1_size v_shelves1_items v_shelves2_holds v_shelves2_body v_shelves2_sort v_shelves2_size v_shelves2_items v_shelves3_holds v_shelves3_body v_shelves3_sort v_shelves3_size v_shelves3_items v_shelves4_holds v_shelves4_body v_shelves4_sort v_shelves4_size v_shelves4_items v_shelves5_holds v_shelves5_body v_shelves5_sort v_shelves5_size v_shelves5_items)) (rest := []) C0 lk_X8_303 (ctX6_hasPart (a := (fun k => a (k + 89))) (d := d - 1) (by omega) hc_489) (by omega) rfl hl.1 rfl (mm_cat rfl) dX8_shift_107 hP hD hA hS rfl rfl [false, false, false, false, false, false, false, false, false, false, false, false, false, false, false, false, false, false, false, false, false, false, false, false, false, false, false, false, false, false, false, false, false, false, false, false, false, false, false, false, false, false, false, false, false, false, false, false, false, false, false, false, false, false, false, false, false, false, false, false, false, false, false, false, false, false, false, false, false, false, false, false, false, false, false, false, false, false, false, false, false, false, false, false, false, false, false, false, false, true, true, false, false, false, false, false, false, false, false] rfl rfl rfl rfl (fun H locs hP hD hS => ?_)
                                    refine W.eq (g2 := F0 m 110 ls [.int (mm_b r_488)]) rfl ?_
                                    refine lv_if_ne (tgt := 116) hx hb dX8_shift_110 (by decide) (fun c_490 => ?_) (fun c_490 => ?_)
                                    · have hf := mm_in hf (mm_b1 c_490)
                                      refine lv_aload hx hb dX8_shift_116 (lv_at hl 1 rfl) ?_
                                      refine mm_get C0 hP iw_X6 97 rfl rfl 4 (by decide) fl_X8_299 rfl dX8_shift_118 ?_
                                      refine lv_iload_n hx hb dX8_shift_121 rfl (lv_at hl 4 rfl) ?_
                                      refine lv_aload hx hb dX8_shift_122 (lv_at hl 0 rfl) ?_
                                      refine mm_get C0 hP iw_X6 89 rfl rfl 4 (by decide) fl_X8_299 rfl dX8_shift_124 ?_
                                      refine lv_iload hx hb dX8_shift_127 (lv_at hl 6 rfl) ?_
                                      refine lv_iload hx hb dX8_shift_129 (lv_at hl 7 rfl) ?_
                                      obtain ⟨h_491, hf⟩ := mm_cks hf
                                      refine mm_copyl C0 la_X8_306 hP hD hS 98 90 rfl rfl h_491 hl.1 (by omega) (mm_cat rfl) dX8_shift_131 (w2 := (wd_X8 cI cL cS cH a v_hasImage v_now_rows v_now_cols v_now_high v_now_wide v_now_folds v_now_wrong v_now_more v_now_rowOf v_now_colOf v_now_below v_now_face v_now_worn v_now_last v_now_bend v_now_tall v_kept_rows v_kept_cols v_kept_high v_kept_wide v_kept_folds v_kept_wrong v_kept_more v_kept_rowOf v_kept_colOf v_kept_below v_kept_face v_kept_worn v_kept_last v_kept_bend v_kept_tall v_wearing_size v_wearing_stepCount v_wearing_draftCount v_wearing_place v_wearing_fault v_wearing_stacked v_wearing_tape v_wearing_steps v_wearing_draft v_wearing_stack v_planned_size v_planned_trial_rows v_planned_trial_cols v_planned_trial_high v_planned_trial_wide v_planned_trial_folds v_planned_trial_wrong v_planned_trial_more v_planned_trial_rowOf v_planned_trial_colOf v_planned_trial_below v_planned_trial_face v_planned_trial_worn v_planned_trial_last v_planned_trial_bend v_planned_trial_tall v_planned_lines v_planned_ways v_search_found v_search_wrong v_search_more v_search_folds v_search_wanted v_search_levels0_rows v_search_levels0_cols v_search_levels0_high v_search_levels0_wide v_search_levels0_folds v_search_levels0_wrong v_search_levels0_more v_search_levels0_rowOf v_search_levels0_colOf v_search_levels0_below v_search_levels0_face v_search_levels0_worn v_search_levels0_last v_search_levels0_bend v_search_levels0_tall v_search_levels1_rows v_search_levels1_cols v_search_levels1_high v_search_levels1_wide v_search_levels1_folds v_search_levels1_wrong v_search_levels1_more v_search_levels1_rowOf v_search_levels1_colOf v_search_levels1_below v_search_levels1_face v_search_levels1_worn v_search_levels1_last v_search_levels1_bend v_search_levels1_tall v_search_levels2_rows v_search_levels2_cols v_search_levels2_high v_search_levels2_wide v_search_levels2_folds v_search_levels2_wrong v_search_levels2_more v_search_levels2_rowOf v_search_levels2_colOf v_search_levels2_below v_search_levels2_face v_search_levels2_worn v_search_levels2_last v_search_levels2_bend v_search_levels2_tall v_search_levels3_rows v_search_levels3_cols v_search_levels3_high v_search_levels3_wide v_search_levels3_folds v_search_levels3_wrong v_search_levels3_more v_search_levels3_rowOf v_search_levels3_colOf v_search_levels3_below v_search_levels3_face v_search_levels3_worn v_search_levels3_last v_search_levels3_bend v_search_levels3_tall v_search_path v_search_best v_strip_list v_strip_found v_strip_at v_changes_value v_changes_done v_changes_size v_changes_before v_changes_after v_foldings_size v_foldings_ran v_foldings_number v_foldings_kinds v_foldings_trace v_shelves0_holds v_shelves0_body v_shelves0_sort v_shelves0_size v_shelves0_items v_shelves1_holds v_shelves1_body v_shelves1_sort v_shelves1_size (mm_cp v_shelves5_items v_shelves1_items x2 x4 x5) v_shelves2_holds v_shelves2_body v_shelves2_sort v_shelves2_size v_shelves2_items v_shelves3_holds v_shelves3_body v_shelves3_sort v_shelves3_size v_shelves3_items v_shelves4_holds v_shelves4_body v_shelves4_sort v_shelves4_size v_shelves4_items v_shelves5_holds v_shelves5_body v_shelves5_sort v_shelves5_size v_shelves5_items)) rfl (fun H locs hP hD hS => ?_)
                                      generalize el_492 : (mm_cp v_shelves5_items v_shelves1_items x2 x4 x5) = l_492 at hP hD
                                      have hf := mm_nms hf el_492.symm
                                      refine lv_iload hx hb dX8_shift_134 (lv_at hl 7 rfl) ?_
                                      apply mm_sub7 hf
                                      exact mm_iret C0 hP hD hS dX8_shift_136
                                    · have hf := mm_ip hf (mm_b0 c_490)
                                      refine lv_bipush (v := -13) hx hb dX8_shift_113 (by decide) ?_
                                      apply mm_sub7 hf
                                      exact mm_iret C0 hP hD hS dX8_shift_115
                              · have hf := mm_in hf c_483
                                refine lv_bipush (v := -12) hx hb dX8_shift_82 (by decide) ?_
                                apply mm_sub7 hf
                                exact mm_iret C0 hP hD hS dX8_shift_84
                        · have hf := mm_ip hf c_480
                          refine lv_bipush (v := -11) hx hb dX8_shift_48 (by decide) ?_
                          apply mm_sub7 hf
                          exact mm_iret C0 hP hD hS dX8_shift_50
                    · have hf := mm_in hf c_478
                      by_cases c_493 : x3 = (2 : Int32)
                      · have hf := mm_ip hf c_493
                        refine mm_aald 3 rfl C0 hP 86 rfl (b := a 91) (by rw [c_493]; rfl) (by rw [c_493]; rfl) dX8_shift_29 ?_
                        refine lv_astore (lv' := [(7, .ref (a 91)), (6, .ref (a 97)), (0, .ref (a 0)), (1, .int x1), (2, .int x2), (3, .int x3), (4, .int x4), (5, .int x5)]) hx hb dX8_shift_30 hl (by decide) rfl (fun ls hl => ?_)
                        refine lv_aload hx hb dX8_shift_32 (lv_at hl 1 rfl) ?_
                        refine mm_get C0 hP iw_X6 97 rfl rfl 0 (by decide) fl_X8_168 rfl dX8_shift_34 ?_
                        refine lv_if_eq (tgt := 48) hx hb dX8_shift_37 (by decide) (fun c_494 => ?_) (fun c_494 => ?_)
                        · have hf := mm_ip hf c_494
                          refine lv_bipush (v := -11) hx hb dX8_shift_48 (by decide) ?_
                          apply mm_sub7 hf
                          exact mm_iret C0 hP hD hS dX8_shift_50
                        · have hf := mm_in hf c_494
                          refine lv_aload hx hb dX8_shift_40 (lv_at hl 0 rfl) ?_
                          refine mm_get C0 hP iw_X6 91 rfl rfl 0 (by decide) fl_X8_168 rfl dX8_shift_42 ?_
                          refine lv_if_ne (tgt := 51) hx hb dX8_shift_45 (by decide) (fun c_495 => ?_) (fun c_495 => ?_)
                          · have hf := mm_in hf c_495
                            refine lv_aload hx hb dX8_shift_51 (lv_at hl 1 rfl) ?_
                            refine mm_get C0 hP iw_X6 97 rfl rfl 0 (by decide) fl_X8_168 rfl dX8_shift_53 ?_
                            refine lv_iconst (v := 2) hx hb dX8_shift_56 (by decide) ?_
                            refine lv_icmp_ne (tgt := 82) hx hb dX8_shift_57 (by decide) (fun c_496 => ?_) (fun c_496 => ?_)
                            · have hf := mm_in hf c_496
                              refine lv_bipush (v := -12) hx hb dX8_shift_82 (by decide) ?_
                              apply mm_sub7 hf
                              exact mm_iret C0 hP hD hS dX8_shift_84
                            · have hf := mm_ip hf c_496
                              refine lv_aload hx hb dX8_shift_60 (lv_at hl 0 rfl) ?_
                              refine mm_get C0 hP iw_X6 91 rfl rfl 0 (by decide) fl_X8_168 rfl dX8_shift_62 ?_
                              refine lv_iconst (v := 2) hx hb dX8_shift_65 (by decide) ?_
                              refine lv_icmp_ne (tgt := 82) hx hb dX8_shift_66 (by decide) (fun c_497 => ?_) (fun c_497 => ?_)
                              · have hf := mm_in hf c_497
                                refine lv_bipush (v := -12) hx hb dX8_shift_82 (by decide) ?_
                                apply mm_sub7 hf
                                exact mm_iret C0 hP hD hS dX8_shift_84
                              · have hf := mm_ip hf c_497
                                refine lv_aload hx hb dX8_shift_69 (lv_at hl 1 rfl) ?_
                                refine mm_get C0 hP iw_X6 97 rfl rfl 2 (by decide) fl_X8_171 rfl dX8_shift_71 ?_
                                refine lv_aload hx hb dX8_shift_74 (lv_at hl 0 rfl) ?_
                                refine mm_get C0 hP iw_X6 91 rfl rfl 2 (by decide) fl_X8_171 rfl dX8_shift_76 ?_
                                refine lv_icmp_eq (tgt := 85) hx hb dX8_shift_79 (by decide) (fun c_498 => ?_) (fun c_498 => ?_)
                                · have hf := mm_ip hf c_498
                                  refine lv_iload hx hb dX8_shift_85 (lv_at hl 7 rfl) ?_
                                  refine lv_if_lt (tgt := 113) hx hb dX8_shift_87 (by decide) (fun c_499 => ?_) (fun c_499 => ?_)
                                  · have hf := mm_ip hf c_499
                                    refine lv_bipush (v := -13) hx hb dX8_shift_113 (by decide) ?_
                                    apply mm_sub7 hf
                                    exact mm_iret C0 hP hD hS dX8_shift_115
                                  · have hf := mm_in hf c_499
                                    refine lv_aload hx hb dX8_shift_90 (lv_at hl 1 rfl) ?_
                                    refine lv_iload_n hx hb dX8_shift_92 rfl (lv_at hl 4 rfl) ?_
                                    refine lv_iload hx hb dX8_shift_93 (lv_at hl 7 rfl) ?_
                                    obtain ⟨r_500, hc_501, hf⟩ := mm_bd1s hf
                                    refine mm_callW (q0 := 97) (ci := 6) (w2 := (wd_X8 cI cL cS cH a v_hasImage v_now_rows v_now_cols v_now_high v_now_wide v_now_folds v_now_wrong v_now_more v_now_rowOf v_now_colOf v_now_below v_now_face v_now_worn v_now_last v_now_bend v_now_tall v_kept_rows v_kept_cols v_kept_high v_kept_wide v_kept_folds v_kept_wrong v_kept_more v_kept_rowOf v_kept_colOf v_kept_below v_kept_face v_kept_worn v_kept_last v_kept_bend v_kept_tall v_wearing_size v_wearing_stepCount v_wearing_draftCount v_wearing_place v_wearing_fault v_wearing_stacked v_wearing_tape v_wearing_steps v_wearing_draft v_wearing_stack v_planned_size v_planned_trial_rows v_planned_trial_cols v_planned_trial_high v_planned_trial_wide v_planned_trial_folds v_planned_trial_wrong v_planned_trial_more v_planned_trial_rowOf v_planned_trial_colOf v_planned_trial_below v_planned_trial_face v_planned_trial_worn v_planned_trial_last v_planned_trial_bend v_planned_trial_tall v_planned_lines v_planned_ways v_search_found v_search_wrong v_search_more v_search_folds v_search_wanted v_search_levels0_rows v_search_levels0_cols v_search_levels0_high v_search_levels0_wide v_search_levels0_folds v_search_levels0_wrong v_search_levels0_more v_search_levels0_rowOf v_search_levels0_colOf v_search_levels0_below v_search_levels0_face v_search_levels0_worn v_search_levels0_last v_search_levels0_bend v_search_levels0_tall v_search_levels1_rows v_search_levels1_cols v_search_levels1_high v_search_levels1_wide v_search_levels1_folds v_search_levels1_wrong v_search_levels1_more v_search_levels1_rowOf v_search_levels1_colOf v_search_levels1_below v_search_levels1_face v_search_levels1_worn v_search_levels1_last v_search_levels1_bend v_search_levels1_tall v_search_levels2_rows v_search_levels2_cols v_search_levels2_high v_search_levels2_wide v_search_levels2_folds v_search_levels2_wrong v_search_levels2_more v_search_levels2_rowOf v_search_levels2_colOf v_search_levels2_below v_search_levels2_face v_search_levels2_worn v_search_levels2_last v_search_levels2_bend v_search_levels2_tall v_search_levels3_rows v_search_levels3_cols v_search_levels3_high v_search_levels3_wide v_search_levels3_folds v_search_levels3_wrong v_search_levels3_more v_search_levels3_rowOf v_search_levels3_colOf v_search_levels3_below v_search_levels3_face v_search_levels3_worn v_search_levels3_last v_search_levels3_bend v_search_levels3_tall v_search_path v_search_best v_strip_list v_strip_found v_strip_at v_changes_value v_changes_done v_changes_size v_changes_before v_changes_after v_foldings_size v_foldings_ran v_foldings_number v_foldings_kinds v_foldings_trace v_shelves0_holds v_shelves0_body v_shelves0_sort v_shelves0_size v_shelves0_items v_shelves1_holds v_shelves1_body v_shelves1_sort v_shelves1_size v_shelves1_items v_shelves2_holds v_shelves2_body v_shelves2_sort v_shelves2_size v_shelves2_items v_shelves3_holds v_shelves3_body v_shelves3_sort v_shelves3_size v_shelves3_items v_shelves4_holds v_shelves4_body v_shelves4_sort v_shelves4_size v_shelves4_items v_shelves5_holds v_shelves5_body v_shelves5_sort v_shelves5_size v_shelves5_items)) (rest := []) C0 lk_X8_303 (ctX6_hasPart (a := (fun k => a (k + 97))) (d := d - 1) (by omega) hc_501) (by omega) rfl hl.1 rfl (mm_cat rfl) dX8_shift_95 hP hD hA hS rfl rfl [false, false, false, false, false, false, false, false, false, false, false, false, false, false, false, false, false, false, false, false, false, false, false, false, false, false, false, false, false, false, false, false, false, false, false, false, false, false, false, false, false, false, false, false, false, false, false, false, false, false, false, false, false, false, false, false, false, false, false, false, false, false, false, false, false, false, false, false, false, false, false, false, false, false, false, false, false, false, false, false, false, false, false, false, false, false, false, false, false, false, false, false, false, false, false, false, false, true, true] rfl rfl rfl rfl (fun H locs hP hD hS => ?_)
                                    refine W.eq (g2 := F0 m 98 ls [.int (mm_b r_500)]) rfl ?_
                                    refine lv_if_eq (tgt := 113) hx hb dX8_shift_98 (by decide) (fun c_502 => ?_) (fun c_502 => ?_)
                                    · have hf := mm_ip hf (mm_b0 c_502)
                                      refine lv_bipush (v := -13) hx hb dX8_shift_113 (by decide) ?_
                                      apply mm_sub7 hf
                                      exact mm_iret C0 hP hD hS dX8_shift_115
                                    · have hf := mm_in hf (mm_b1 c_502)
                                      refine lv_aload hx hb dX8_shift_101 (lv_at hl 0 rfl) ?_
                                      refine lv_iload hx hb dX8_shift_103 (lv_at hl 6 rfl) ?_
                                      refine lv_iload hx hb dX8_shift_105 (lv_at hl 7 rfl) ?_
                                      obtain ⟨r_503, hc_504, hf⟩ := mm_bd1s hf
                                      refine mm_callW (q0 := 91) (ci := 6) (w2 := (wd_X8 cI cL cS cH a v_hasImage v_now_rows v_now_cols v_now_high v_now_wide v_now_folds v_now_wrong v_now_more v_now_rowOf v_now_colOf v_now_below v_now_face v_now_worn v_now_last v_now_bend v_now_tall v_kept_rows v_kept_cols v_kept_high v_kept_wide v_kept_folds v_kept_wrong v_kept_more v_kept_rowOf v_kept_colOf v_kept_below v_kept_face v_kept_worn v_kept_last v_kept_bend v_kept_tall v_wearing_size v_wearing_stepCount v_wearing_draftCount v_wearing_place v_wearing_fault v_wearing_stacked v_wearing_tape v_wearing_steps v_wearing_draft v_wearing_stack v_planned_size v_planned_trial_rows v_planned_trial_cols v_planned_trial_high v_planned_trial_wide v_planned_trial_folds v_planned_trial_wrong v_planned_trial_more v_planned_trial_rowOf v_planned_trial_colOf v_planned_trial_below v_planned_trial_face v_planned_trial_worn v_planned_trial_last v_planned_trial_bend v_planned_trial_tall v_planned_lines v_planned_ways v_search_found v_search_wrong v_search_more v_search_folds v_search_wanted v_search_levels0_rows v_search_levels0_cols v_search_levels0_high v_search_levels0_wide v_search_levels0_folds v_search_levels0_wrong v_search_levels0_more v_search_levels0_rowOf v_search_levels0_colOf v_search_levels0_below v_search_levels0_face v_search_levels0_worn v_search_levels0_last v_search_levels0_bend v_search_levels0_tall v_search_levels1_rows v_search_levels1_cols v_search_levels1_high v_search_levels1_wide v_search_levels1_folds v_search_levels1_wrong v_search_levels1_more v_search_levels1_rowOf v_search_levels1_colOf v_search_levels1_below v_search_levels1_face v_search_levels1_worn v_search_levels1_last v_search_levels1_bend v_search_levels1_tall v_search_levels2_rows v_search_levels2_cols v_search_levels2_high v_search_levels2_wide v_search_levels2_folds v_search_levels2_wrong v_search_levels2_more v_search_levels2_rowOf v_search_levels2_colOf v_search_levels2_below v_search_levels2_face v_search_levels2_worn v_search_levels2_last v_search_levels2_bend v_search_levels2_tall v_search_levels3_rows v_search_levels3_cols v_search_levels3_high v_search_levels3_wide v_search_levels3_folds v_search_levels3_wrong v_search_levels3_more v_search_levels3_rowOf v_search_levels3_colOf v_search_levels3_below v_search_levels3_face v_search_levels3_worn v_search_levels3_last v_search_levels3_bend v_search_levels3_tall v_search_path v_search_best v_strip_list v_strip_found v_strip_at v_changes_value v_changes_done v_changes_size v_changes_before v_changes_after v_foldings_size v_foldings_ran v_foldings_number v_foldings_kinds v_foldings_trace v_shelves0_holds v_shelves0_body v_shelves0_sort v_shelves0_size v_shelves0_items v_shelves1_holds v_shelves1_body v_shelves1_sort v_shelves1_size v_shelves1_items v_shelves2_holds v_shelves2_body v_shelves2_sort v_shelves2_size v_shelves2_items v_shelves3_holds v_shelves3_body v_shelves3_sort v_shelves3_size v_shelves3_items v_shelves4_holds v_shelves4_body v_shelves4_sort v_shelves4_size v_shelves4_items v_shelves5_holds v_shelves5_body v_shelves5_sort v_shelves5_size v_shelves5_items)) (rest := []) C0 lk_X8_303 (ctX6_hasPart (a := (fun k => a (k + 91))) (d := d - 1) (by omega) hc_504) (by omega) rfl hl.1 rfl (mm_cat rfl) dX8_shift_107 hP hD hA hS rfl rfl [false, false, false, false, false, false, false, false, false, false, false, false, false, false, false, false, false, false, false, false, false, false, false, false, false, false, false, false, false, false, false, false, false, false, false, false, false, false, false, false, false, false, false, false, false, false, false, false, false, false, false, false, false, false, false, false, false, false, false, false, false, false, false, false, false, false, false, false, false, false, false, false, false, false, false, false, false, false, false, false, false, false, false, false, false, false, false, false, false, false, false, true, true, false, false, false, false, false, false] rfl rfl rfl rfl (fun H locs hP hD hS => ?_)
                                      refine W.eq (g2 := F0 m 110 ls [.int (mm_b r_503)]) rfl ?_
                                      refine lv_if_ne (tgt := 116) hx hb dX8_shift_110 (by decide) (fun c_505 => ?_) (fun c_505 => ?_)
                                      · have hf := mm_in hf (mm_b1 c_505)
                                        refine lv_aload hx hb dX8_shift_116 (lv_at hl 1 rfl) ?_
                                        refine mm_get C0 hP iw_X6 97 rfl rfl 4 (by decide) fl_X8_299 rfl dX8_shift_118 ?_
                                        refine lv_iload_n hx hb dX8_shift_121 rfl (lv_at hl 4 rfl) ?_
                                        refine lv_aload hx hb dX8_shift_122 (lv_at hl 0 rfl) ?_
                                        refine mm_get C0 hP iw_X6 91 rfl rfl 4 (by decide) fl_X8_299 rfl dX8_shift_124 ?_
                                        refine lv_iload hx hb dX8_shift_127 (lv_at hl 6 rfl) ?_
                                        refine lv_iload hx hb dX8_shift_129 (lv_at hl 7 rfl) ?_
                                        obtain ⟨h_506, hf⟩ := mm_cks hf
                                        refine mm_copyl C0 la_X8_306 hP hD hS 98 92 rfl rfl h_506 hl.1 (by omega) (mm_cat rfl) dX8_shift_131 (w2 := (wd_X8 cI cL cS cH a v_hasImage v_now_rows v_now_cols v_now_high v_now_wide v_now_folds v_now_wrong v_now_more v_now_rowOf v_now_colOf v_now_below v_now_face v_now_worn v_now_last v_now_bend v_now_tall v_kept_rows v_kept_cols v_kept_high v_kept_wide v_kept_folds v_kept_wrong v_kept_more v_kept_rowOf v_kept_colOf v_kept_below v_kept_face v_kept_worn v_kept_last v_kept_bend v_kept_tall v_wearing_size v_wearing_stepCount v_wearing_draftCount v_wearing_place v_wearing_fault v_wearing_stacked v_wearing_tape v_wearing_steps v_wearing_draft v_wearing_stack v_planned_size v_planned_trial_rows v_planned_trial_cols v_planned_trial_high v_planned_trial_wide v_planned_trial_folds v_planned_trial_wrong v_planned_trial_more v_planned_trial_rowOf v_planned_trial_colOf v_planned_trial_below v_planned_trial_face v_planned_trial_worn v_planned_trial_last v_planned_trial_bend v_planned_trial_tall v_planned_lines v_planned_ways v_search_found v_search_wrong v_search_more v_search_folds v_search_wanted v_search_levels0_rows v_search_levels0_cols v_search_levels0_high v_search_levels0_wide v_search_levels0_folds v_search_levels0_wrong v_search_levels0_more v_search_levels0_rowOf v_search_levels0_colOf v_search_levels0_below v_search_levels0_face v_search_levels0_worn v_search_levels0_last v_search_levels0_bend v_search_levels0_tall v_search_levels1_rows v_search_levels1_cols v_search_levels1_high v_search_levels1_wide v_search_levels1_folds v_search_levels1_wrong v_search_levels1_more v_search_levels1_rowOf v_search_levels1_colOf v_search_levels1_below v_search_levels1_face v_search_levels1_worn v_search_levels1_last v_search_levels1_bend v_search_levels1_tall v_search_levels2_rows v_search_levels2_cols v_search_levels2_high v_search_levels2_wide v_search_levels2_folds v_search_levels2_wrong v_search_levels2_more v_search_levels2_rowOf v_search_levels2_colOf v_search_levels2_below v_search_levels2_face v_search_levels2_worn v_search_levels2_last v_search_levels2_bend v_search_levels2_tall v_search_levels3_rows v_search_levels3_cols v_search_levels3_high v_search_levels3_wide v_search_levels3_folds v_search_levels3_wrong v_search_levels3_more v_search_levels3_rowOf v_search_levels3_colOf v_search_levels3_below v_search_levels3_face v_search_levels3_worn v_search_levels3_last v_search_levels3_bend v_search_levels3_tall v_search_path v_search_best v_strip_list v_strip_found v_strip_at v_changes_value v_changes_done v_changes_size v_changes_before v_changes_after v_foldings_size v_foldings_ran v_foldings_number v_foldings_kinds v_foldings_trace v_shelves0_holds v_shelves0_body v_shelves0_sort v_shelves0_size v_shelves0_items v_shelves1_holds v_shelves1_body v_shelves1_sort v_shelves1_size v_shelves1_items v_shelves2_holds v_shelves2_body v_shelves2_sort v_shelves2_size (mm_cp v_shelves5_items v_shelves2_items x2 x4 x5) v_shelves3_holds v_shelves3_body v_shelves3_sort v_shelves3_size v_shelves3_items v_shelves4_holds v_shelves4_body v_shelves4_sort v_shelves4_size v_shelves4_items v_shelves5_holds v_shelves5_body v_shelves5_sort v_shelves5_size v_shelves5_items)) rfl (fun H locs hP hD hS => ?_)
                                        generalize el_507 : (mm_cp v_shelves5_items v_shelves2_items x2 x4 x5) = l_507 at hP hD
                                        have hf := mm_nms hf el_507.symm
                                        refine lv_iload hx hb dX8_shift_134 (lv_at hl 7 rfl) ?_
                                        apply mm_sub7 hf
                                        exact mm_iret C0 hP hD hS dX8_shift_136
                                      · have hf := mm_ip hf (mm_b0 c_505)
                                        refine lv_bipush (v := -13) hx hb dX8_shift_113 (by decide) ?_
                                        apply mm_sub7 hf
                                        exact mm_iret C0 hP hD hS dX8_shift_115
                                · have hf := mm_in hf c_498
                                  refine lv_bipush (v := -12) hx hb dX8_shift_82 (by decide) ?_
                                  apply mm_sub7 hf
                                  exact mm_iret C0 hP hD hS dX8_shift_84
                          · have hf := mm_ip hf c_495
                            refine lv_bipush (v := -11) hx hb dX8_shift_48 (by decide) ?_
                            apply mm_sub7 hf
                            exact mm_iret C0 hP hD hS dX8_shift_50
                      · have hf := mm_in hf c_493
                        by_cases c_508 : x3 = (3 : Int32)
                        · have hf := mm_ip hf c_508
                          refine mm_aald 3 rfl C0 hP 86 rfl (b := a 93) (by rw [c_508]; rfl) (by rw [c_508]; rfl) dX8_shift_29 ?_
                          refine lv_astore (lv' := [(7, .ref (a 93)), (6, .ref (a 97)), (0, .ref (a 0)), (1, .int x1), (2, .int x2), (3, .int x3), (4, .int x4), (5, .int x5)]) hx hb dX8_shift_30 hl (by decide) rfl (fun ls hl => ?_)
                          refine lv_aload hx hb dX8_shift_32 (lv_at hl 1 rfl) ?_
                          refine mm_get C0 hP iw_X6 97 rfl rfl 0 (by decide) fl_X8_168 rfl dX8_shift_34 ?_
                          refine lv_if_eq (tgt := 48) hx hb dX8_shift_37 (by decide) (fun c_509 => ?_) (fun c_509 => ?_)
                          · have hf := mm_ip hf c_509
                            refine lv_bipush (v := -11) hx hb dX8_shift_48 (by decide) ?_
                            apply mm_sub7 hf
                            exact mm_iret C0 hP hD hS dX8_shift_50
                          · have hf := mm_in hf c_509
                            refine lv_aload hx hb dX8_shift_40 (lv_at hl 0 rfl) ?_
                            refine mm_get C0 hP iw_X6 93 rfl rfl 0 (by decide) fl_X8_168 rfl dX8_shift_42 ?_
                            refine lv_if_ne (tgt := 51) hx hb dX8_shift_45 (by decide) (fun c_510 => ?_) (fun c_510 => ?_)
                            · have hf := mm_in hf c_510
                              refine lv_aload hx hb dX8_shift_51 (lv_at hl 1 rfl) ?_
                              refine mm_get C0 hP iw_X6 97 rfl rfl 0 (by decide) fl_X8_168 rfl dX8_shift_53 ?_
                              refine lv_iconst (v := 2) hx hb dX8_shift_56 (by decide) ?_
                              refine lv_icmp_ne (tgt := 82) hx hb dX8_shift_57 (by decide) (fun c_511 => ?_) (fun c_511 => ?_)
                              · have hf := mm_in hf c_511
                                refine lv_bipush (v := -12) hx hb dX8_shift_82 (by decide) ?_
                                apply mm_sub7 hf
                                exact mm_iret C0 hP hD hS dX8_shift_84
                              · have hf := mm_ip hf c_511
                                refine lv_aload hx hb dX8_shift_60 (lv_at hl 0 rfl) ?_
                                refine mm_get C0 hP iw_X6 93 rfl rfl 0 (by decide) fl_X8_168 rfl dX8_shift_62 ?_
                                refine lv_iconst (v := 2) hx hb dX8_shift_65 (by decide) ?_
                                refine lv_icmp_ne (tgt := 82) hx hb dX8_shift_66 (by decide) (fun c_512 => ?_) (fun c_512 => ?_)
                                · have hf := mm_in hf c_512
                                  refine lv_bipush (v := -12) hx hb dX8_shift_82 (by decide) ?_
                                  apply mm_sub7 hf
                                  exact mm_iret C0 hP hD hS dX8_shift_84
                                · have hf := mm_ip hf c_512
                                  refine lv_aload hx hb dX8_shift_69 (lv_at hl 1 rfl) ?_
                                  refine mm_get C0 hP iw_X6 97 rfl rfl 2 (by decide) fl_X8_171 rfl dX8_shift_71 ?_
                                  refine lv_aload hx hb dX8_shift_74 (lv_at hl 0 rfl) ?_
                                  refine mm_get C0 hP iw_X6 93 rfl rfl 2 (by decide) fl_X8_171 rfl dX8_shift_76 ?_
                                  refine lv_icmp_eq (tgt := 85) hx hb dX8_shift_79 (by decide) (fun c_513 => ?_) (fun c_513 => ?_)
                                  · have hf := mm_ip hf c_513
                                    refine lv_iload hx hb dX8_shift_85 (lv_at hl 7 rfl) ?_
                                    refine lv_if_lt (tgt := 113) hx hb dX8_shift_87 (by decide) (fun c_514 => ?_) (fun c_514 => ?_)
                                    · have hf := mm_ip hf c_514
                                      refine lv_bipush (v := -13) hx hb dX8_shift_113 (by decide) ?_
                                      apply mm_sub7 hf
                                      exact mm_iret C0 hP hD hS dX8_shift_115
                                    · have hf := mm_in hf c_514
                                      refine lv_aload hx hb dX8_shift_90 (lv_at hl 1 rfl) ?_
                                      refine lv_iload_n hx hb dX8_shift_92 rfl (lv_at hl 4 rfl) ?_
                                      refine lv_iload hx hb dX8_shift_93 (lv_at hl 7 rfl) ?_
                                      obtain ⟨r_515, hc_516, hf⟩ := mm_bd1s hf
                                      refine mm_callW (q0 := 97) (ci := 6) (w2 := (wd_X8 cI cL cS cH a v_hasImage v_now_rows v_now_cols v_now_high v_now_wide v_now_folds v_now_wrong v_now_more v_now_rowOf v_now_colOf v_now_below v_now_face v_now_worn v_now_last v_now_bend v_now_tall v_kept_rows v_kept_cols v_kept_high v_kept_wide v_kept_folds v_kept_wrong v_kept_more v_kept_rowOf v_kept_colOf v_kept_below v_kept_face v_kept_worn v_kept_last v_kept_bend v_kept_tall v_wearing_size v_wearing_stepCount v_wearing_draftCount v_wearing_place v_wearing_fault v_wearing_stacked v_wearing_tape v_wearing_steps v_wearing_draft v_wearing_stack v_planned_size v_planned_trial_rows v_planned_trial_cols v_planned_trial_high v_planned_trial_wide v_planned_trial_folds v_planned_trial_wrong v_planned_trial_more v_planned_trial_rowOf v_planned_trial_colOf v_planned_trial_below v_planned_trial_face v_planned_trial_worn v_planned_trial_last v_planned_trial_bend v_planned_trial_tall v_planned_lines v_planned_ways v_search_found v_search_wrong v_search_more v_search_folds v_search_wanted v_search_levels0_rows v_search_levels0_cols v_search_levels0_high v_search_levels0_wide v_search_levels0_folds v_search_levels0_wrong v_search_levels0_more v_search_levels0_rowOf v_search_levels0_colOf v_search_levels0_below v_search_levels0_face v_search_levels0_worn v_search_levels0_last v_search_levels0_bend v_search_levels0_tall v_search_levels1_rows v_search_levels1_cols v_search_levels1_high v_search_levels1_wide v_search_levels1_folds v_search_levels1_wrong v_search_levels1_more v_search_levels1_rowOf v_search_levels1_colOf v_search_levels1_below v_search_levels1_face v_search_levels1_worn v_search_levels1_last v_search_levels1_bend v_search_levels1_tall v_search_levels2_rows v_search_levels2_cols v_search_levels2_high v_search_levels2_wide v_search_levels2_folds v_search_levels2_wrong v_search_levels2_more v_search_levels2_rowOf v_search_levels2_colOf v_search_levels2_below v_search_levels2_face v_search_levels2_worn v_search_levels2_last v_search_levels2_bend v_search_levels2_tall v_search_levels3_rows v_search_levels3_cols v_search_levels3_high v_search_levels3_wide v_search_levels3_folds v_search_levels3_wrong v_search_levels3_more v_search_levels3_rowOf v_search_levels3_colOf v_search_levels3_below v_search_levels3_face v_search_levels3_worn v_search_levels3_last v_search_levels3_bend v_search_levels3_tall v_search_path v_search_best v_strip_list v_strip_found v_strip_at v_changes_value v_changes_done v_changes_size v_changes_before v_changes_after v_foldings_size v_foldings_ran v_foldings_number v_foldings_kinds v_foldings_trace v_shelves0_holds v_shelves0_body v_shelves0_sort v_shelves0_size v_shelves0_items v_shelves1_holds v_shelves1_body v_shelves1_sort v_shelves1_size v_shelves1_items v_shelves2_holds v_shelves2_body v_shelves2_sort v_shelves2_size v_shelves2_items v_shelves3_holds v_shelves3_body v_shelves3_sort v_shelves3_size v_shelves3_items v_shelves4_holds v_shelves4_body v_shelves4_sort v_shelves4_size v_shelves4_items v_shelves5_holds v_shelves5_body v_shelves5_sort v_shelves5_size v_shelves5_items)) (rest := []) C0 lk_X8_303 (ctX6_hasPart (a := (fun k => a (k + 97))) (d := d - 1) (by omega) hc_516) (by omega) rfl hl.1 rfl (mm_cat rfl) dX8_shift_95 hP hD hA hS rfl rfl [false, false, false, false, false, false, false, false, false, false, false, false, false, false, false, false, false, false, false, false, false, false, false, false, false, false, false, false, false, false, false, false, false, false, false, false, false, false, false, false, false, false, false, false, false, false, false, false, false, false, false, false, false, false, false, false, false, false, false, false, false, false, false, false, false, false, false, false, false, false, false, false, false, false, false, false, false, false, false, false, false, false, false, false, false, false, false, false, false, false, false, false, false, false, false, false, false, true, true] rfl rfl rfl rfl (fun H locs hP hD hS => ?_)
                                      refine W.eq (g2 := F0 m 98 ls [.int (mm_b r_515)]) rfl ?_
                                      refine lv_if_eq (tgt := 113) hx hb dX8_shift_98 (by decide) (fun c_517 => ?_) (fun c_517 => ?_)
                                      · have hf := mm_ip hf (mm_b0 c_517)
                                        refine lv_bipush (v := -13) hx hb dX8_shift_113 (by decide) ?_
                                        apply mm_sub7 hf
                                        exact mm_iret C0 hP hD hS dX8_shift_115
                                      · have hf := mm_in hf (mm_b1 c_517)
                                        refine lv_aload hx hb dX8_shift_101 (lv_at hl 0 rfl) ?_
                                        refine lv_iload hx hb dX8_shift_103 (lv_at hl 6 rfl) ?_
                                        refine lv_iload hx hb dX8_shift_105 (lv_at hl 7 rfl) ?_
                                        obtain ⟨r_518, hc_519, hf⟩ := mm_bd1s hf
                                        refine mm_callW (q0 := 93) (ci := 6) (w2 := (wd_X8 cI cL cS cH a v_hasImage v_now_rows v_now_cols v_now_high v_now_wide v_now_folds v_now_wrong v_now_more v_now_rowOf v_now_colOf v_now_below v_now_face v_now_worn v_now_last v_now_bend v_now_tall v_kept_rows v_kept_cols v_kept_high v_kept_wide v_kept_folds v_kept_wrong v_kept_more v_kept_rowOf v_kept_colOf v_kept_below v_kept_face v_kept_worn v_kept_last v_kept_bend v_kept_tall v_wearing_size v_wearing_stepCount v_wearing_draftCount v_wearing_place v_wearing_fault v_wearing_stacked v_wearing_tape v_wearing_steps v_wearing_draft v_wearing_stack v_planned_size v_planned_trial_rows v_planned_trial_cols v_planned_trial_high v_planned_trial_wide v_planned_trial_folds v_planned_trial_wrong v_planned_trial_more v_planned_trial_rowOf v_planned_trial_colOf v_planned_trial_below v_planned_trial_face v_planned_trial_worn v_planned_trial_last v_planned_trial_bend v_planned_trial_tall v_planned_lines v_planned_ways v_search_found v_search_wrong v_search_more v_search_folds v_search_wanted v_search_levels0_rows v_search_levels0_cols v_search_levels0_high v_search_levels0_wide v_search_levels0_folds v_search_levels0_wrong v_search_levels0_more v_search_levels0_rowOf v_search_levels0_colOf v_search_levels0_below v_search_levels0_face v_search_levels0_worn v_search_levels0_last v_search_levels0_bend v_search_levels0_tall v_search_levels1_rows v_search_levels1_cols v_search_levels1_high v_search_levels1_wide v_search_levels1_folds v_search_levels1_wrong v_search_levels1_more v_search_levels1_rowOf v_search_levels1_colOf v_search_levels1_below v_search_levels1_face v_search_levels1_worn v_search_levels1_last v_search_levels1_bend v_search_levels1_tall v_search_levels2_rows v_search_levels2_cols v_search_levels2_high v_search_levels2_wide v_search_levels2_folds v_search_levels2_wrong v_search_levels2_more v_search_levels2_rowOf v_search_levels2_colOf v_search_levels2_below v_search_levels2_face v_search_levels2_worn v_search_levels2_last v_search_levels2_bend v_search_levels2_tall v_search_levels3_rows v_search_levels3_cols v_search_levels3_high v_search_levels3_wide v_search_levels3_folds v_search_levels3_wrong v_search_levels3_more v_search_levels3_rowOf v_search_levels3_colOf v_search_levels3_below v_search_levels3_face v_search_levels3_worn v_search_levels3_last v_search_levels3_bend v_search_levels3_tall v_search_path v_search_best v_strip_list v_strip_found v_strip_at v_changes_value v_changes_done v_changes_size v_changes_before v_changes_after v_foldings_size v_foldings_ran v_foldings_number v_foldings_kinds v_foldings_trace v_shelves0_holds v_shelves0_body v_shelves0_sort v_shelves0_size v_shelves0_items v_shelves1_holds v_shelves1_body v_shelves1_sort v_shelves1_size v_shelves1_items v_shelves2_holds v_shelves2_body v_shelves2_sort v_shelves2_size v_shelves2_items v_shelves3_holds v_shelves3_body v_shelves3_sort v_shelves3_size v_shelves3_items v_shelves4_holds v_shelves4_body v_shelves4_sort v_shelves4_size v_shelves4_items v_shelves5_holds v_shelves5_body v_shelves5_sort v_shelves5_size v_shelves5_items)) (rest := []) C0 lk_X8_303 (ctX6_hasPart (a := (fun k => a (k + 93))) (d := d - 1) (by omega) hc_519) (by omega) rfl hl.1 rfl (mm_cat rfl) dX8_shift_107 hP hD hA hS rfl rfl [false, false, false, false, false, false, false, false, false, false, false, false, false, false, false, false, false, false, false, false, false, false, false, false, false, false, false, false, false, false, false, false, false, false, false, false, false, false, false, false, false, false, false, false, false, false, false, false, false, false, false, false, false, false, false, false, false, false, false, false, false, false, false, false, false, false, false, false, false, false, false, false, false, false, false, false, false, false, false, false, false, false, false, false, false, false, false, false, false, false, false, false, false, true, true, false, false, false, false] rfl rfl rfl rfl (fun H locs hP hD hS => ?_)
                                        refine W.eq (g2 := F0 m 110 ls [.int (mm_b r_518)]) rfl ?_
                                        refine lv_if_ne (tgt := 116) hx hb dX8_shift_110 (by decide) (fun c_520 => ?_) (fun c_520 => ?_)
                                        · have hf := mm_in hf (mm_b1 c_520)
                                          refine lv_aload hx hb dX8_shift_116 (lv_at hl 1 rfl) ?_
                                          refine mm_get C0 hP iw_X6 97 rfl rfl 4 (by decide) fl_X8_299 rfl dX8_shift_118 ?_
                                          refine lv_iload_n hx hb dX8_shift_121 rfl (lv_at hl 4 rfl) ?_
                                          refine lv_aload hx hb dX8_shift_122 (lv_at hl 0 rfl) ?_
                                          refine mm_get C0 hP iw_X6 93 rfl rfl 4 (by decide) fl_X8_299 rfl dX8_shift_124 ?_
                                          refine lv_iload hx hb dX8_shift_127 (lv_at hl 6 rfl) ?_
                                          refine lv_iload hx hb dX8_shift_129 (lv_at hl 7 rfl) ?_
                                          obtain ⟨h_521, hf⟩ := mm_cks hf
                                          refine mm_copyl C0 la_X8_306 hP hD hS 98 94 rfl rfl h_521 hl.1 (by omega) (mm_cat rfl) dX8_shift_131 (w2 := (wd_X8 cI cL cS cH a v_hasImage v_now_rows v_now_cols v_now_high v_now_wide v_now_folds v_now_wrong v_now_more v_now_rowOf v_now_colOf v_now_below v_now_face v_now_worn v_now_last v_now_bend v_now_tall v_kept_rows v_kept_cols v_kept_high v_kept_wide v_kept_folds v_kept_wrong v_kept_more v_kept_rowOf v_kept_colOf v_kept_below v_kept_face v_kept_worn v_kept_last v_kept_bend v_kept_tall v_wearing_size v_wearing_stepCount v_wearing_draftCount v_wearing_place v_wearing_fault v_wearing_stacked v_wearing_tape v_wearing_steps v_wearing_draft v_wearing_stack v_planned_size v_planned_trial_rows v_planned_trial_cols v_planned_trial_high v_planned_trial_wide v_planned_trial_folds v_planned_trial_wrong v_planned_trial_more v_planned_trial_rowOf v_planned_trial_colOf v_planned_trial_below v_planned_trial_face v_planned_trial_worn v_planned_trial_last v_planned_trial_bend v_planned_trial_tall v_planned_lines v_planned_ways v_search_found v_search_wrong v_search_more v_search_folds v_search_wanted v_search_levels0_rows v_search_levels0_cols v_search_levels0_high v_search_levels0_wide v_search_levels0_folds v_search_levels0_wrong v_search_levels0_more v_search_levels0_rowOf v_search_levels0_colOf v_search_levels0_below v_search_levels0_face v_search_levels0_worn v_search_levels0_last v_search_levels0_bend v_search_levels0_tall v_search_levels1_rows v_search_levels1_cols v_search_levels1_high v_search_levels1_wide v_search_levels1_folds v_search_levels1_wrong v_search_levels1_more v_search_levels1_rowOf v_search_levels1_colOf v_search_levels1_below v_search_levels1_face v_search_levels1_worn v_search_levels1_last v_search_levels1_bend v_search_levels1_tall v_search_levels2_rows v_search_levels2_cols v_search_levels2_high v_search_levels2_wide v_search_levels2_folds v_search_levels2_wrong v_search_levels2_more v_search_levels2_rowOf v_search_levels2_colOf v_search_levels2_below v_search_levels2_face v_search_levels2_worn v_search_levels2_last v_search_levels2_bend v_search_levels2_tall v_search_levels3_rows v_search_levels3_cols v_search_levels3_high v_search_levels3_wide v_search_levels3_folds v_search_levels3_wrong v_search_levels3_more v_search_levels3_rowOf v_search_levels3_colOf v_search_levels3_below v_search_levels3_face v_search_levels3_worn v_search_levels3_last v_search_levels3_bend v_search_levels3_tall v_search_path v_search_best v_strip_list v_strip_found v_strip_at v_changes_value v_changes_done v_changes_size v_changes_before v_changes_after v_foldings_size v_foldings_ran v_foldings_number v_foldings_kinds v_foldings_trace v_shelves0_holds v_shelves0_body v_shelves0_sort v_shelves0_size v_shelves0_items v_shelves1_holds v_shelves1_body v_shelves1_sort v_shelves1_size v_shelves1_items v_shelves2_holds v_shelves2_body v_shelves2_sort v_shelves2_size v_shelves2_items v_shelves3_holds v_shelves3_body v_shelves3_sort v_shelves3_size (mm_cp v_shelves5_items v_shelves3_items x2 x4 x5) v_shelves4_holds v_shelves4_body v_shelves4_sort v_shelves4_size v_shelves4_items v_shelves5_holds v_shelves5_body v_shelves5_sort v_shelves5_size v_shelves5_items)) rfl (fun H locs hP hD hS => ?_)
                                          generalize el_522 : (mm_cp v_shelves5_items v_shelves3_items x2 x4 x5) = l_522 at hP hD
                                          have hf := mm_nms hf el_522.symm
                                          refine lv_iload hx hb dX8_shift_134 (lv_at hl 7 rfl) ?_
                                          apply mm_sub7 hf
                                          exact mm_iret C0 hP hD hS dX8_shift_136
                                        · have hf := mm_ip hf (mm_b0 c_520)
                                          refine lv_bipush (v := -13) hx hb dX8_shift_113 (by decide) ?_
                                          apply mm_sub7 hf
                                          exact mm_iret C0 hP hD hS dX8_shift_115
                                  · have hf := mm_in hf c_513
                                    refine lv_bipush (v := -12) hx hb dX8_shift_82 (by decide) ?_
                                    apply mm_sub7 hf
                                    exact mm_iret C0 hP hD hS dX8_shift_84
                            · have hf := mm_ip hf c_510
                              refine lv_bipush (v := -11) hx hb dX8_shift_48 (by decide) ?_
                              apply mm_sub7 hf
                              exact mm_iret C0 hP hD hS dX8_shift_50
                        · have hf := mm_in hf c_508
                          by_cases c_523 : x3 = (4 : Int32)
                          · have hf := mm_ip hf c_523
                            refine mm_aald 3 rfl C0 hP 86 rfl (b := a 95) (by rw [c_523]; rfl) (by rw [c_523]; rfl) dX8_shift_29 ?_
                            refine lv_astore (lv' := [(7, .ref (a 95)), (6, .ref (a 97)), (0, .ref (a 0)), (1, .int x1), (2, .int x2), (3, .int x3), (4, .int x4), (5, .int x5)]) hx hb dX8_shift_30 hl (by decide) rfl (fun ls hl => ?_)
                            refine lv_aload hx hb dX8_shift_32 (lv_at hl 1 rfl) ?_
                            refine mm_get C0 hP iw_X6 97 rfl rfl 0 (by decide) fl_X8_168 rfl dX8_shift_34 ?_
                            refine lv_if_eq (tgt := 48) hx hb dX8_shift_37 (by decide) (fun c_524 => ?_) (fun c_524 => ?_)
                            · have hf := mm_ip hf c_524
                              refine lv_bipush (v := -11) hx hb dX8_shift_48 (by decide) ?_
                              apply mm_sub7 hf
                              exact mm_iret C0 hP hD hS dX8_shift_50
                            · have hf := mm_in hf c_524
                              refine lv_aload hx hb dX8_shift_40 (lv_at hl 0 rfl) ?_
                              refine mm_get C0 hP iw_X6 95 rfl rfl 0 (by decide) fl_X8_168 rfl dX8_shift_42 ?_
                              refine lv_if_ne (tgt := 51) hx hb dX8_shift_45 (by decide) (fun c_525 => ?_) (fun c_525 => ?_)
                              · have hf := mm_in hf c_525
                                refine lv_aload hx hb dX8_shift_51 (lv_at hl 1 rfl) ?_
                                refine mm_get C0 hP iw_X6 97 rfl rfl 0 (by decide) fl_X8_168 rfl dX8_shift_53 ?_
                                refine lv_iconst (v := 2) hx hb dX8_shift_56 (by decide) ?_
                                refine lv_icmp_ne (tgt := 82) hx hb dX8_shift_57 (by decide) (fun c_526 => ?_) (fun c_526 => ?_)
                                · have hf := mm_in hf c_526
                                  refine lv_bipush (v := -12) hx hb dX8_shift_82 (by decide) ?_
                                  apply mm_sub7 hf
                                  exact mm_iret C0 hP hD hS dX8_shift_84
                                · have hf := mm_ip hf c_526
                                  refine lv_aload hx hb dX8_shift_60 (lv_at hl 0 rfl) ?_
                                  refine mm_get C0 hP iw_X6 95 rfl rfl 0 (by decide) fl_X8_168 rfl dX8_shift_62 ?_
                                  refine lv_iconst (v := 2) hx hb dX8_shift_65 (by decide) ?_
                                  refine lv_icmp_ne (tgt := 82) hx hb dX8_shift_66 (by decide) (fun c_527 => ?_) (fun c_527 => ?_)
                                  · have hf := mm_in hf c_527
                                    refine lv_bipush (v := -12) hx hb dX8_shift_82 (by decide) ?_
                                    apply mm_sub7 hf
                                    exact mm_iret C0 hP hD hS dX8_shift_84
                                  · have hf := mm_ip hf c_527
                                    refine lv_aload hx hb dX8_shift_69 (lv_at hl 1 rfl) ?_
                                    refine mm_get C0 hP iw_X6 97 rfl rfl 2 (by decide) fl_X8_171 rfl dX8_shift_71 ?_
                                    refine lv_aload hx hb dX8_shift_74 (lv_at hl 0 rfl) ?_
                                    refine mm_get C0 hP iw_X6 95 rfl rfl 2 (by decide) fl_X8_171 rfl dX8_shift_76 ?_
                                    refine lv_icmp_eq (tgt := 85) hx hb dX8_shift_79 (by decide) (fun c_528 => ?_) (fun c_528 => ?_)
                                    · have hf := mm_ip hf c_528
                                      refine lv_iload hx hb dX8_shift_85 (lv_at hl 7 rfl) ?_
                                      refine lv_if_lt (tgt := 113) hx hb dX8_shift_87 (by decide) (fun c_529 => ?_) (fun c_529 => ?_)
                                      · have hf := mm_ip hf c_529
                                        refine lv_bipush (v := -13) hx hb dX8_shift_113 (by decide) ?_
                                        apply mm_sub7 hf
                                        exact mm_iret C0 hP hD hS dX8_shift_115
                                      · have hf := mm_in hf c_529
                                        refine lv_aload hx hb dX8_shift_90 (lv_at hl 1 rfl) ?_
                                        refine lv_iload_n hx hb dX8_shift_92 rfl (lv_at hl 4 rfl) ?_
                                        refine lv_iload hx hb dX8_shift_93 (lv_at hl 7 rfl) ?_
                                        obtain ⟨r_530, hc_531, hf⟩ := mm_bd1s hf
                                        refine mm_callW (q0 := 97) (ci := 6) (w2 := (wd_X8 cI cL cS cH a v_hasImage v_now_rows v_now_cols v_now_high v_now_wide v_now_folds v_now_wrong v_now_more v_now_rowOf v_now_colOf v_now_below v_now_face v_now_worn v_now_last v_now_bend v_now_tall v_kept_rows v_kept_cols v_kept_high v_kept_wide v_kept_folds v_kept_wrong v_kept_more v_kept_rowOf v_kept_colOf v_kept_below v_kept_face v_kept_worn v_kept_last v_kept_bend v_kept_tall v_wearing_size v_wearing_stepCount v_wearing_draftCount v_wearing_place v_wearing_fault v_wearing_stacked v_wearing_tape v_wearing_steps v_wearing_draft v_wearing_stack v_planned_size v_planned_trial_rows v_planned_trial_cols v_planned_trial_high v_planned_trial_wide v_planned_trial_folds v_planned_trial_wrong v_planned_trial_more v_planned_trial_rowOf v_planned_trial_colOf v_planned_trial_below v_planned_trial_face v_planned_trial_worn v_planned_trial_last v_planned_trial_bend v_planned_trial_tall v_planned_lines v_planned_ways v_search_found v_search_wrong v_search_more v_search_folds v_search_wanted v_search_levels0_rows v_search_levels0_cols v_search_levels0_high v_search_levels0_wide v_search_levels0_folds v_search_levels0_wrong v_search_levels0_more v_search_levels0_rowOf v_search_levels0_colOf v_search_levels0_below v_search_levels0_face v_search_levels0_worn v_search_levels0_last v_search_levels0_bend v_search_levels0_tall v_search_levels1_rows v_search_levels1_cols v_search_levels1_high v_search_levels1_wide v_search_levels1_folds v_search_levels1_wrong v_search_levels1_more v_search_levels1_rowOf v_search_levels1_colOf v_search_levels1_below v_search_levels1_face v_search_levels1_worn v_search_levels1_last v_search_levels1_bend v_search_levels1_tall v_search_levels2_rows v_search_levels2_cols v_search_levels2_high v_search_levels2_wide v_search_levels2_folds v_search_levels2_wrong v_search_levels2_more v_search_levels2_rowOf v_search_levels2_colOf v_search_levels2_below v_search_levels2_face v_search_levels2_worn v_search_levels2_last v_search_levels2_bend v_search_levels2_tall v_search_levels3_rows v_search_levels3_cols v_search_levels3_high v_search_levels3_wide v_search_levels3_folds v_search_levels3_wrong v_search_levels3_more v_search_levels3_rowOf v_search_levels3_colOf v_search_levels3_below v_search_levels3_face v_search_levels3_worn v_search_levels3_last v_search_levels3_bend v_search_levels3_tall v_search_path v_search_best v_strip_list v_strip_found v_strip_at v_changes_value v_changes_done v_changes_size v_changes_before v_changes_after v_foldings_size v_foldings_ran v_foldings_number v_foldings_kinds v_foldings_trace v_shelves0_holds v_shelves0_body v_shelves0_sort v_shelves0_size v_shelves0_items v_shelves1_holds v_shelves1_body v_shelves1_sort v_shelves1_size v_shelves1_items v_shelves2_holds v_shelves2_body v_shelves2_sort v_shelves2_size v_shelves2_items v_shelves3_holds v_shelves3_body v_shelves3_sort v_shelves3_size v_shelves3_items v_shelves4_holds v_shelves4_body v_shelves4_sort v_shelves4_size v_shelves4_items v_shelves5_holds v_shelves5_body v_shelves5_sort v_shelves5_size v_shelves5_items)) (rest := []) C0 lk_X8_303 (ctX6_hasPart (a := (fun k => a (k + 97))) (d := d - 1) (by omega) hc_531) (by omega) rfl hl.1 rfl (mm_cat rfl) dX8_shift_95 hP hD hA hS rfl rfl [false, false, false, false, false, false, false, false, false, false, false, false, false, false, false, false, false, false, false, false, false, false, false, false, false, false, false, false, false, false, false, false, false, false, false, false, false, false, false, false, false, false, false, false, false, false, false, false, false, false, false, false, false, false, false, false, false, false, false, false, false, false, false, false, false, false, false, false, false, false, false, false, false, false, false, false, false, false, false, false, false, false, false, false, false, false, false, false, false, false, false, false, false, false, false, false, false, true, true] rfl rfl rfl rfl (fun H locs hP hD hS => ?_)
                                        refine W.eq (g2 := F0 m 98 ls [.int (mm_b r_530)]) rfl ?_
                                        refine lv_if_eq (tgt := 113) hx hb dX8_shift_98 (by decide) (fun c_532 => ?_) (fun c_532 => ?_)
                                        · have hf := mm_ip hf (mm_b0 c_532)
                                          refine lv_bipush (v := -13) hx hb dX8_shift_113 (by decide) ?_
                                          apply mm_sub7 hf
                                          exact mm_iret C0 hP hD hS dX8_shift_115
                                        · have hf := mm_in hf (mm_b1 c_532)
                                          refine lv_aload hx hb dX8_shift_101 (lv_at hl 0 rfl) ?_
                                          refine lv_iload hx hb dX8_shift_103 (lv_at hl 6 rfl) ?_
                                          refine lv_iload hx hb dX8_shift_105 (lv_at hl 7 rfl) ?_
                                          obtain ⟨r_533, hc_534, hf⟩ := mm_bd1s hf
                                          refine mm_callW (q0 := 95) (ci := 6) (w2 := (wd_X8 cI cL cS cH a v_hasImage v_now_rows v_now_cols v_now_high v_now_wide v_now_folds v_now_wrong v_now_more v_now_rowOf v_now_colOf v_now_below v_now_face v_now_worn v_now_last v_now_bend v_now_tall v_kept_rows v_kept_cols v_kept_high v_kept_wide v_kept_folds v_kept_wrong v_kept_more v_kept_rowOf v_kept_colOf v_kept_below v_kept_face v_kept_worn v_kept_last v_kept_bend v_kept_tall v_wearing_size v_wearing_stepCount v_wearing_draftCount v_wearing_place v_wearing_fault v_wearing_stacked v_wearing_tape v_wearing_steps v_wearing_draft v_wearing_stack v_planned_size v_planned_trial_rows v_planned_trial_cols v_planned_trial_high v_planned_trial_wide v_planned_trial_folds v_planned_trial_wrong v_planned_trial_more v_planned_trial_rowOf v_planned_trial_colOf v_planned_trial_below v_planned_trial_face v_planned_trial_worn v_planned_trial_last v_planned_trial_bend v_planned_trial_tall v_planned_lines v_planned_ways v_search_found v_search_wrong v_search_more v_search_folds v_search_wanted v_search_levels0_rows v_search_levels0_cols v_search_levels0_high v_search_levels0_wide v_search_levels0_folds v_search_levels0_wrong v_search_levels0_more v_search_levels0_rowOf v_search_levels0_colOf v_search_levels0_below v_search_levels0_face v_search_levels0_worn v_search_levels0_last v_search_levels0_bend v_search_levels0_tall v_search_levels1_rows v_search_levels1_cols v_search_levels1_high v_search_levels1_wide v_search_levels1_folds v_search_levels1_wrong v_search_levels1_more v_search_levels1_rowOf v_search_levels1_colOf v_search_levels1_below v_search_levels1_face v_search_levels1_worn v_search_levels1_last v_search_levels1_bend v_search_levels1_tall v_search_levels2_rows v_search_levels2_cols v_search_levels2_high v_search_levels2_wide v_search_levels2_folds v_search_levels2_wrong v_search_levels2_more v_search_levels2_rowOf v_search_levels2_colOf v_search_levels2_below v_search_levels2_face v_search_levels2_worn v_search_levels2_last v_search_levels2_bend v_search_levels2_tall v_search_levels3_rows v_search_levels3_cols v_search_levels3_high v_search_levels3_wide v_search_levels3_folds v_search_levels3_wrong v_search_levels3_more v_search_levels3_rowOf v_search_levels3_colOf v_search_levels3_below v_search_levels3_face v_search_levels3_worn v_search_levels3_last v_search_levels3_bend v_search_levels3_tall v_search_path v_search_best v_strip_list v_strip_found v_strip_at v_changes_value v_changes_done v_changes_size v_changes_before v_changes_after v_foldings_size v_foldings_ran v_foldings_number v_foldings_kinds v_foldings_trace v_shelves0_holds v_shelves0_body v_shelves0_sort v_shelves0_size v_shelves0_items v_shelves1_holds v_shelves1_body v_shelves1_sort v_shelves1_size v_shelves1_items v_shelves2_holds v_shelves2_body v_shelves2_sort v_shelves2_size v_shelves2_items v_shelves3_holds v_shelves3_body v_shelves3_sort v_shelves3_size v_shelves3_items v_shelves4_holds v_shelves4_body v_shelves4_sort v_shelves4_size v_shelves4_items v_shelves5_holds v_shelves5_body v_shelves5_sort v_shelves5_size v_shelves5_items)) (rest := []) C0 lk_X8_303 (ctX6_hasPart (a := (fun k => a (k + 95))) (d := d - 1) (by omega) hc_534) (by omega) rfl hl.1 rfl (mm_cat rfl) dX8_shift_107 hP hD hA hS rfl rfl [false, false, false, false, false, false, false, false, false, false, false, false, false, false, false, false, false, false, false, false, false, false, false, false, false, false, false, false, false, false, false, false, false, false, false, false, false, false, false, false, false, false, false, false, false, false, false, false, false, false, false, false, false, false, false, false, false, false, false, false, false, false, false, false, false, false, false, false, false, false, false, false, false, false, false, false, false, false, false, false, false, false, false, false, false, false, false, false, false, false, false, false, false, false, false, true, true, false, false] rfl rfl rfl rfl (fun H locs hP hD hS => ?_)
                                          refine W.eq (g2 := F0 m 110 ls [.int (mm_b r_533)]) rfl ?_
                                          refine lv_if_ne (tgt := 116) hx hb dX8_shift_110 (by decide) (fun c_535 => ?_) (fun c_535 => ?_)
                                          · have hf := mm_in hf (mm_b1 c_535)
                                            refine lv_aload hx hb dX8_shift_116 (lv_at hl 1 rfl) ?_
                                            refine mm_get C0 hP iw_X6 97 rfl rfl 4 (by decide) fl_X8_299 rfl dX8_shift_118 ?_
                                            refine lv_iload_n hx hb dX8_shift_121 rfl (lv_at hl 4 rfl) ?_
                                            refine lv_aload hx hb dX8_shift_122 (lv_at hl 0 rfl) ?_
                                            refine mm_get C0 hP iw_X6 95 rfl rfl 4 (by decide) fl_X8_299 rfl dX8_shift_124 ?_
                                            refine lv_iload hx hb dX8_shift_127 (lv_at hl 6 rfl) ?_
                                            refine lv_iload hx hb dX8_shift_129 (lv_at hl 7 rfl) ?_
                                            obtain ⟨h_536, hf⟩ := mm_cks hf
                                            refine mm_copyl C0 la_X8_306 hP hD hS 98 96 rfl rfl h_536 hl.1 (by omega) (mm_cat rfl) dX8_shift_131 (w2 := (wd_X8 cI cL cS cH a v_hasImage v_now_rows v_now_cols v_now_high v_now_wide v_now_folds v_now_wrong v_now_more v_now_rowOf v_now_colOf v_now_below v_now_face v_now_worn v_now_last v_now_bend v_now_tall v_kept_rows v_kept_cols v_kept_high v_kept_wide v_kept_folds v_kept_wrong v_kept_more v_kept_rowOf v_kept_colOf v_kept_below v_kept_face v_kept_worn v_kept_last v_kept_bend v_kept_tall v_wearing_size v_wearing_stepCount v_wearing_draftCount v_wearing_place v_wearing_fault v_wearing_stacked v_wearing_tape v_wearing_steps v_wearing_draft v_wearing_stack v_planned_size v_planned_trial_rows v_planned_trial_cols v_planned_trial_high v_planned_trial_wide v_planned_trial_folds v_planned_trial_wrong v_planned_trial_more v_planned_trial_rowOf v_planned_trial_colOf v_planned_trial_below v_planned_trial_face v_planned_trial_worn v_planned_trial_last v_planned_trial_bend v_planned_trial_tall v_planned_lines v_planned_ways v_search_found v_search_wrong v_search_more v_search_folds v_search_wanted v_search_levels0_rows v_search_levels0_cols v_search_levels0_high v_search_levels0_wide v_search_levels0_folds v_search_levels0_wrong v_search_levels0_more v_search_levels0_rowOf v_search_levels0_colOf v_search_levels0_below v_search_levels0_face v_search_levels0_worn v_search_levels0_last v_search_levels0_bend v_search_levels0_tall v_search_levels1_rows v_search_levels1_cols v_search_levels1_high v_search_levels1_wide v_search_levels1_folds v_search_levels1_wrong v_search_levels1_more v_search_levels1_rowOf v_search_levels1_colOf v_search_levels1_below v_search_levels1_face v_search_levels1_worn v_search_levels1_last v_search_levels1_bend v_search_levels1_tall v_search_levels2_rows v_search_levels2_cols v_search_levels2_high v_search_levels2_wide v_search_levels2_folds v_search_levels2_wrong v_search_levels2_more v_search_levels2_rowOf v_search_levels2_colOf v_search_levels2_below v_search_levels2_face v_search_levels2_worn v_search_levels2_last v_search_levels2_bend v_search_levels2_tall v_search_levels3_rows v_search_levels3_cols v_search_levels3_high v_search_levels3_wide v_search_levels3_folds v_search_levels3_wrong v_search_levels3_more v_search_levels3_rowOf v_search_levels3_colOf v_search_levels3_below v_search_levels3_face v_search_levels3_worn v_search_levels3_last v_search_levels3_bend v_search_levels3_tall v_search_path v_search_best v_strip_list v_strip_found v_strip_at v_changes_value v_changes_done v_changes_size v_changes_before v_changes_after v_foldings_size v_foldings_ran v_foldings_number v_foldings_kinds v_foldings_trace v_shelves0_holds v_shelves0_body v_shelves0_sort v_shelves0_size v_shelves0_items v_shelves1_holds v_shelves1_body v_shelves1_sort v_shelves1_size v_shelves1_items v_shelves2_holds v_shelves2_body v_shelves2_sort v_shelves2_size v_shelves2_items v_shelves3_holds v_shelves3_body v_shelves3_sort v_shelves3_size v_shelves3_items v_shelves4_holds v_shelves4_body v_shelves4_sort v_shelves4_size (mm_cp v_shelves5_items v_shelves4_items x2 x4 x5) v_shelves5_holds v_shelves5_body v_shelves5_sort v_shelves5_size v_shelves5_items)) rfl (fun H locs hP hD hS => ?_)
                                            generalize el_537 : (mm_cp v_shelves5_items v_shelves4_items x2 x4 x5) = l_537 at hP hD
                                            have hf := mm_nms hf el_537.symm
                                            refine lv_iload hx hb dX8_shift_134 (lv_at hl 7 rfl) ?_
                                            apply mm_sub7 hf
                                            exact mm_iret C0 hP hD hS dX8_shift_136
                                          · have hf := mm_ip hf (mm_b0 c_535)
                                            refine lv_bipush (v := -13) hx hb dX8_shift_113 (by decide) ?_
                                            apply mm_sub7 hf
                                            exact mm_iret C0 hP hD hS dX8_shift_115
                                    · have hf := mm_in hf c_528
                                      refine lv_bipush (v := -12) hx hb dX8_shift_82 (by decide) ?_
                                      apply mm_sub7 hf
                                      exact mm_iret C0 hP hD hS dX8_shift_84
                              · have hf := mm_ip hf c_525
                                refine lv_bipush (v := -11) hx hb dX8_shift_48 (by decide) ?_
                                apply mm_sub7 hf
                                exact mm_iret C0 hP hD hS dX8_shift_50
                          · have hf := mm_in hf c_523
                            by_cases c_538 : x3 = (5 : Int32)
                            · have hf := mm_ip hf c_538
                              refine mm_aald 3 rfl C0 hP 86 rfl (b := a 97) (by rw [c_538]; rfl) (by rw [c_538]; rfl) dX8_shift_29 ?_
                              refine lv_astore (lv' := [(7, .ref (a 97)), (6, .ref (a 97)), (0, .ref (a 0)), (1, .int x1), (2, .int x2), (3, .int x3), (4, .int x4), (5, .int x5)]) hx hb dX8_shift_30 hl (by decide) rfl (fun ls hl => ?_)
                              refine lv_aload hx hb dX8_shift_32 (lv_at hl 1 rfl) ?_
                              refine mm_get C0 hP iw_X6 97 rfl rfl 0 (by decide) fl_X8_168 rfl dX8_shift_34 ?_
                              refine lv_if_eq (tgt := 48) hx hb dX8_shift_37 (by decide) (fun c_539 => ?_) (fun c_539 => ?_)
                              · have hf := mm_ip hf c_539
                                refine lv_bipush (v := -11) hx hb dX8_shift_48 (by decide) ?_
                                apply mm_sub7 hf
                                exact mm_iret C0 hP hD hS dX8_shift_50
                              · have hf := mm_in hf c_539
                                refine lv_aload hx hb dX8_shift_40 (lv_at hl 0 rfl) ?_
                                refine mm_get C0 hP iw_X6 97 rfl rfl 0 (by decide) fl_X8_168 rfl dX8_shift_42 ?_
                                refine lv_if_ne (tgt := 51) hx hb dX8_shift_45 (by decide) (fun c_540 => ?_) (fun c_540 => ?_)
                                · have hf := mm_in hf c_540
                                  refine lv_aload hx hb dX8_shift_51 (lv_at hl 1 rfl) ?_
                                  refine mm_get C0 hP iw_X6 97 rfl rfl 0 (by decide) fl_X8_168 rfl dX8_shift_53 ?_
                                  refine lv_iconst (v := 2) hx hb dX8_shift_56 (by decide) ?_
                                  refine lv_icmp_ne (tgt := 82) hx hb dX8_shift_57 (by decide) (fun c_541 => ?_) (fun c_541 => ?_)
                                  · have hf := mm_in hf c_541
                                    refine lv_bipush (v := -12) hx hb dX8_shift_82 (by decide) ?_
                                    apply mm_sub7 hf
                                    exact mm_iret C0 hP hD hS dX8_shift_84
                                  · have hf := mm_ip hf c_541
                                    refine lv_aload hx hb dX8_shift_60 (lv_at hl 0 rfl) ?_
                                    refine mm_get C0 hP iw_X6 97 rfl rfl 0 (by decide) fl_X8_168 rfl dX8_shift_62 ?_
                                    refine lv_iconst (v := 2) hx hb dX8_shift_65 (by decide) ?_
                                    refine lv_icmp_ne (tgt := 82) hx hb dX8_shift_66 (by decide) (fun c_542 => ?_) (fun c_542 => ?_)
                                    · have hf := mm_in hf c_542
                                      refine lv_bipush (v := -12) hx hb dX8_shift_82 (by decide) ?_
                                      apply mm_sub7 hf
                                      exact mm_iret C0 hP hD hS dX8_shift_84
                                    · have hf := mm_ip hf c_542
                                      refine lv_aload hx hb dX8_shift_69 (lv_at hl 1 rfl) ?_
                                      refine mm_get C0 hP iw_X6 97 rfl rfl 2 (by decide) fl_X8_171 rfl dX8_shift_71 ?_
                                      refine lv_aload hx hb dX8_shift_74 (lv_at hl 0 rfl) ?_
                                      refine mm_get C0 hP iw_X6 97 rfl rfl 2 (by decide) fl_X8_171 rfl dX8_shift_76 ?_
                                      refine lv_icmp_eq (tgt := 85) hx hb dX8_shift_79 (by decide) (fun c_543 => ?_) (fun c_543 => ?_)
                                      · have hf := mm_ip hf c_543
                                        refine lv_iload hx hb dX8_shift_85 (lv_at hl 7 rfl) ?_
                                        refine lv_if_lt (tgt := 113) hx hb dX8_shift_87 (by decide) (fun c_544 => ?_) (fun c_544 => ?_)
                                        · have hf := mm_ip hf c_544
                                          refine lv_bipush (v := -13) hx hb dX8_shift_113 (by decide) ?_
                                          apply mm_sub7 hf
                                          exact mm_iret C0 hP hD hS dX8_shift_115
                                        · have hf := mm_in hf c_544
                                          refine lv_aload hx hb dX8_shift_90 (lv_at hl 1 rfl) ?_
                                          refine lv_iload_n hx hb dX8_shift_92 rfl (lv_at hl 4 rfl) ?_
                                          refine lv_iload hx hb dX8_shift_93 (lv_at hl 7 rfl) ?_
                                          obtain ⟨r_545, hc_546, hf⟩ := mm_bd1s hf
                                          refine mm_callW (q0 := 97) (ci := 6) (w2 := (wd_X8 cI cL cS cH a v_hasImage v_now_rows v_now_cols v_now_high v_now_wide v_now_folds v_now_wrong v_now_more v_now_rowOf v_now_colOf v_now_below v_now_face v_now_worn v_now_last v_now_bend v_now_tall v_kept_rows v_kept_cols v_kept_high v_kept_wide v_kept_folds v_kept_wrong v_kept_more v_kept_rowOf v_kept_colOf v_kept_below v_kept_face v_kept_worn v_kept_last v_kept_bend v_kept_tall v_wearing_size v_wearing_stepCount v_wearing_draftCount v_wearing_place v_wearing_fault v_wearing_stacked v_wearing_tape v_wearing_steps v_wearing_draft v_wearing_stack v_planned_size v_planned_trial_rows v_planned_trial_cols v_planned_trial_high v_planned_trial_wide v_planned_trial_folds v_planned_trial_wrong v_planned_trial_more v_planned_trial_rowOf v_planned_trial_colOf v_planned_trial_below v_planned_trial_face v_planned_trial_worn v_planned_trial_last v_planned_trial_bend v_planned_trial_tall v_planned_lines v_planned_ways v_search_found v_search_wrong v_search_more v_search_folds v_search_wanted v_search_levels0_rows v_search_levels0_cols v_search_levels0_high v_search_levels0_wide v_search_levels0_folds v_search_levels0_wrong v_search_levels0_more v_search_levels0_rowOf v_search_levels0_colOf v_search_levels0_below v_search_levels0_face v_search_levels0_worn v_search_levels0_last v_search_levels0_bend v_search_levels0_tall v_search_levels1_rows v_search_levels1_cols v_search_levels1_high v_search_levels1_wide v_search_levels1_folds v_search_levels1_wrong v_search_levels1_more v_search_levels1_rowOf v_search_levels1_colOf v_search_levels1_below v_search_levels1_face v_search_levels1_worn v_search_levels1_last v_search_levels1_bend v_search_levels1_tall v_search_levels2_rows v_search_levels2_cols v_search_levels2_high v_search_levels2_wide v_search_levels2_folds v_search_levels2_wrong v_search_levels2_more v_search_levels2_rowOf v_search_levels2_colOf v_search_levels2_below v_search_levels2_face v_search_levels2_worn v_search_levels2_last v_search_levels2_bend v_search_levels2_tall v_search_levels3_rows v_search_levels3_cols v_search_levels3_high v_search_levels3_wide v_search_levels3_folds v_search_levels3_wrong v_search_levels3_more v_search_levels3_rowOf v_search_levels3_colOf v_search_levels3_below v_search_levels3_face v_search_levels3_worn v_search_levels3_last v_search_levels3_bend v_search_levels3_tall v_search_path v_search_best v_strip_list v_strip_found v_strip_at v_changes_value v_changes_done v_changes_size v_changes_before v_changes_after v_foldings_size v_foldings_ran v_foldings_number v_foldings_kinds v_foldings_trace v_shelves0_holds v_shelves0_body v_shelves0_sort v_shelves0_size v_shelves0_items v_shelves1_holds v_shelves1_body v_shelves1_sort v_shelves1_size v_shelves1_items v_shelves2_holds v_shelves2_body v_shelves2_sort v_shelves2_size v_shelves2_items v_shelves3_holds v_shelves3_body v_shelves3_sort v_shelves3_size v_shelves3_items v_shelves4_holds v_shelves4_body v_shelves4_sort v_shelves4_size v_shelves4_items v_shelves5_holds v_shelves5_body v_shelves5_sort v_shelves5_size v_shelves5_items)) (rest := []) C0 lk_X8_303 (ctX6_hasPart (a := (fun k => a (k + 97))) (d := d - 1) (by omega) hc_546) (by omega) rfl hl.1 rfl (mm_cat rfl) dX8_shift_95 hP hD hA hS rfl rfl [false, false, false, false, false, false, false, false, false, false, false, false, false, false, false, false, false, false, false, false, false, false, false, false, false, false, false, false, false, false, false, false, false, false, false, false, false, false, false, false, false, false, false, false, false, false, false, false, false, false, false, false, false, false, false, false, false, false, false, false, false, false, false, false, false, false, false, false, false, false, false, false, false, false, false, false, false, false, false, false, false, false, false, false, false, false, false, false, false, false, false, false, false, false, false, false, false, true, true] rfl rfl rfl rfl (fun H locs hP hD hS => ?_)
                                          refine W.eq (g2 := F0 m 98 ls [.int (mm_b r_545)]) rfl ?_
                                          refine lv_if_eq (tgt := 113) hx hb dX8_shift_98 (by decide) (fun c_547 => ?_) (fun c_547 => ?_)
                                          · have hf := mm_ip hf (mm_b0 c_547)
                                            refine lv_bipush (v := -13) hx hb dX8_shift_113 (by decide) ?_
                                            apply mm_sub7 hf
                                            exact mm_iret C0 hP hD hS dX8_shift_115
                                          · have hf := mm_in hf (mm_b1 c_547)
                                            refine lv_aload hx hb dX8_shift_101 (lv_at hl 0 rfl) ?_
                                            refine lv_iload hx hb dX8_shift_103 (lv_at hl 6 rfl) ?_
                                            refine lv_iload hx hb dX8_shift_105 (lv_at hl 7 rfl) ?_
                                            obtain ⟨r_548, hc_549, hf⟩ := mm_bd1s hf
                                            refine mm_callW (q0 := 97) (ci := 6) (w2 := (wd_X8 cI cL cS cH a v_hasImage v_now_rows v_now_cols v_now_high v_now_wide v_now_folds v_now_wrong v_now_more v_now_rowOf v_now_colOf v_now_below v_now_face v_now_worn v_now_last v_now_bend v_now_tall v_kept_rows v_kept_cols v_kept_high v_kept_wide v_kept_folds v_kept_wrong v_kept_more v_kept_rowOf v_kept_colOf v_kept_below v_kept_face v_kept_worn v_kept_last v_kept_bend v_kept_tall v_wearing_size v_wearing_stepCount v_wearing_draftCount v_wearing_place v_wearing_fault v_wearing_stacked v_wearing_tape v_wearing_steps v_wearing_draft v_wearing_stack v_planned_size v_planned_trial_rows v_planned_trial_cols v_planned_trial_high v_planned_trial_wide v_planned_trial_folds v_planned_trial_wrong v_planned_trial_more v_planned_trial_rowOf v_planned_trial_colOf v_planned_trial_below v_planned_trial_face v_planned_trial_worn v_planned_trial_last v_planned_trial_bend v_planned_trial_tall v_planned_lines v_planned_ways v_search_found v_search_wrong v_search_more v_search_folds v_search_wanted v_search_levels0_rows v_search_levels0_cols v_search_levels0_high v_search_levels0_wide v_search_levels0_folds v_search_levels0_wrong v_search_levels0_more v_search_levels0_rowOf v_search_levels0_colOf v_search_levels0_below v_search_levels0_face v_search_levels0_worn v_search_levels0_last v_search_levels0_bend v_search_levels0_tall v_search_levels1_rows v_search_levels1_cols v_search_levels1_high v_search_levels1_wide v_search_levels1_folds v_search_levels1_wrong v_search_levels1_more v_search_levels1_rowOf v_search_levels1_colOf v_search_levels1_below v_search_levels1_face v_search_levels1_worn v_search_levels1_last v_search_levels1_bend v_search_levels1_tall v_search_levels2_rows v_search_levels2_cols v_search_levels2_high v_search_levels2_wide v_search_levels2_folds v_search_levels2_wrong v_search_levels2_more v_search_levels2_rowOf v_search_levels2_colOf v_search_levels2_below v_search_levels2_face v_search_levels2_worn v_search_levels2_last v_search_levels2_bend v_search_levels2_tall v_search_levels3_rows v_search_levels3_cols v_search_levels3_high v_search_levels3_wide v_search_levels3_folds v_search_levels3_wrong v_search_levels3_more v_search_levels3_rowOf v_search_levels3_colOf v_search_levels3_below v_search_levels3_face v_search_levels3_worn v_search_levels3_last v_search_levels3_bend v_search_levels3_tall v_search_path v_search_best v_strip_list v_strip_found v_strip_at v_changes_value v_changes_done v_changes_size v_changes_before v_changes_after v_foldings_size v_foldings_ran v_foldings_number v_foldings_kinds v_foldings_trace v_shelves0_holds v_shelves0_body v_shelves0_sort v_shelves0_size v_shelves0_items v_shelves1_holds v_shelves1_body v_shelves1_sort v_shelves1_size v_shelves1_items v_shelves2_holds v_shelves2_body v_shelves2_sort v_shelves2_size v_shelves2_items v_shelves3_holds v_shelves3_body v_shelves3_sort v_shelves3_size v_shelves3_items v_shelves4_holds v_shelves4_body v_shelves4_sort v_shelves4_size v_shelves4_items v_shelves5_holds v_shelves5_body v_shelves5_sort v_shelves5_size v_shelves5_items)) (rest := []) C0 lk_X8_303 (ctX6_hasPart (a := (fun k => a (k + 97))) (d := d - 1) (by omega) hc_549) (by omega) rfl hl.1 rfl (mm_cat rfl) dX8_shift_107 hP hD hA hS rfl rfl [false, false, false, false, false, false, false, false, false, false, false, false, false, false, false, false, false, false, false, false, false, false, false, false, false, false, false, false, false, false, false, false, false, false, false, false, false, false, false, false, false, false, false, false, false, false, false, false, false, false, false, false, false, false, false, false, false, false, false, false, false, false, false, false, false, false, false, false, false, false, false, false, false, false, false, false, false, false, false, false, false, false, false, false, false, false, false, false, false, false, false, false, false, false, false, false, false, true, true] rfl rfl rfl rfl (fun H locs hP hD hS => ?_)
                                            refine W.eq (g2 := F0 m 110 ls [.int (mm_b r_548)]) rfl ?_
                                            refine lv_if_ne (tgt := 116) hx hb dX8_shift_110 (by decide) (fun c_550 => ?_) (fun c_550 => ?_)
                                            · have hf := mm_in hf (mm_b1 c_550)
                                              refine lv_aload hx hb dX8_shift_116 (lv_at hl 1 rfl) ?_
                                              refine mm_get C0 hP iw_X6 97 rfl rfl 4 (by decide) fl_X8_299 rfl dX8_shift_118 ?_
                                              refine lv_iload_n hx hb dX8_shift_121 rfl (lv_at hl 4 rfl) ?_
                                              refine lv_aload hx hb dX8_shift_122 (lv_at hl 0 rfl) ?_
                                              refine mm_get C0 hP iw_X6 97 rfl rfl 4 (by decide) fl_X8_299 rfl dX8_shift_124 ?_
                                              refine lv_iload hx hb dX8_shift_127 (lv_at hl 6 rfl) ?_
                                              refine lv_iload hx hb dX8_shift_129 (lv_at hl 7 rfl) ?_
                                              obtain ⟨h_551, hf⟩ := mm_cks hf
                                              refine mm_copyl C0 la_X8_306 hP hD hS 98 98 rfl rfl h_551 hl.1 (by omega) (mm_cat rfl) dX8_shift_131 (w2 := (wd_X8 cI cL cS cH a v_hasImage v_now_rows v_now_cols v_now_high v_now_wide v_now_folds v_now_wrong v_now_more v_now_rowOf v_now_colOf v_now_below v_now_face v_now_worn v_now_last v_now_bend v_now_tall v_kept_rows v_kept_cols v_kept_high v_kept_wide v_kept_folds v_kept_wrong v_kept_more v_kept_rowOf v_kept_colOf v_kept_below v_kept_face v_kept_worn v_kept_last v_kept_bend v_kept_tall v_wearing_size v_wearing_stepCount v_wearing_draftCount v_wearing_place v_wearing_fault v_wearing_stacked v_wearing_tape v_wearing_steps v_wearing_draft v_wearing_stack v_planned_size v_planned_trial_rows v_planned_trial_cols v_planned_trial_high v_planned_trial_wide v_planned_trial_folds v_planned_trial_wrong v_planned_trial_more v_planned_trial_rowOf v_planned_trial_colOf v_planned_trial_below v_planned_trial_face v_planned_trial_worn v_planned_trial_last v_planned_trial_bend v_planned_trial_tall v_planned_lines v_planned_ways v_search_found v_search_wrong v_search_more v_search_folds v_search_wanted v_search_levels0_rows v_search_levels0_cols v_search_levels0_high v_search_levels0_wide v_search_levels0_folds v_search_levels0_wrong v_search_levels0_more v_search_levels0_rowOf v_search_levels0_colOf v_search_levels0_below v_search_levels0_face v_search_levels0_worn v_search_levels0_last v_search_levels0_bend v_search_levels0_tall v_search_levels1_rows v_search_levels1_cols v_search_levels1_high v_search_levels1_wide v_search_levels1_folds v_search_levels1_wrong v_search_levels1_more v_search_levels1_rowOf v_search_levels1_colOf v_search_levels1_below v_search_levels1_face v_search_levels1_worn v_search_levels1_last v_search_levels1_bend v_search_levels1_tall v_search_levels2_rows v_search_levels2_cols v_search_levels2_high v_search_levels2_wide v_search_levels2_folds v_search_levels2_wrong v_search_levels2_more v_search_levels2_rowOf v_search_levels2_colOf v_search_levels2_below v_search_levels2_face v_search_levels2_worn v_search_levels2_last v_search_levels2_bend v_search_levels2_tall v_search_levels3_rows v_search_levels3_cols v_search_levels3_high v_search_levels3_wide v_search_levels3_folds v_search_levels3_wrong v_search_levels3_more v_search_levels3_rowOf v_search_levels3_colOf v_search_levels3_below v_search_levels3_face v_search_levels3_worn v_search_levels3_last v_search_levels3_bend v_search_levels3_tall v_search_path v_search_best v_strip_list v_strip_found v_strip_at v_changes_value v_changes_done v_changes_size v_changes_before v_changes_after v_foldings_size v_foldings_ran v_foldings_number v_foldings_kinds v_foldings_trace v_shelves0_holds v_shelves0_body v_shelves0_sort v_shelves0_size v_shelves0_items v_shelves1_holds v_shelves1_body v_shelves1_sort v_shelves1_size v_shelves1_items v_shelves2_holds v_shelves2_body v_shelves2_sort v_shelves2_size v_shelves2_items v_shelves3_holds v_shelves3_body v_shelves3_sort v_shelves3_size v_shelves3_items v_shelves4_holds v_shelves4_body v_shelves4_sort v_shelves4_size v_shelves4_items v_shelves5_holds v_shelves5_body v_shelves5_sort v_shelves5_size (mm_cp v_shelves5_items v_shelves5_items x2 x4 x5))) rfl (fun H locs hP hD hS => ?_)
                                              generalize el_552 : (mm_cp v_shelves5_items v_shelves5_items x2 x4 x5) = l_552 at hP hD
                                              have hf := mm_nms hf el_552.symm
                                              refine lv_iload hx hb dX8_shift_134 (lv_at hl 7 rfl) ?_
                                              apply mm_sub7 hf
                                              exact mm_iret C0 hP hD hS dX8_shift_136
                                            · have hf := mm_ip hf (mm_b0 c_550)
                                              refine lv_bipush (v := -13) hx hb dX8_shift_113 (by decide) ?_
                                              apply mm_sub7 hf
                                              exact mm_iret C0 hP hD hS dX8_shift_115
                                      · have hf := mm_in hf c_543
                                        refine lv_bipush (v := -12) hx hb dX8_shift_82 (by decide) ?_
                                        apply mm_sub7 hf
                                        exact mm_iret C0 hP hD hS dX8_shift_84
                                · have hf := mm_ip hf c_540
                                  refine lv_bipush (v := -11) hx hb dX8_shift_48 (by decide) ?_
                                  apply mm_sub7 hf
                                  exact mm_iret C0 hP hD hS dX8_shift_50
                            · have hf := mm_in hf c_538
                              cases hf
                · have hf := mm_in hf c_462
                  cases hf
    · have hf := mm_ip hf (mm_b0 c_6)
      refine lv_iconst (v := -1) hx hb dX8_shift_14 (by decide) ?_
      apply mm_sub7 hf
      exact mm_iret C0 hP hD hS dX8_shift_15

