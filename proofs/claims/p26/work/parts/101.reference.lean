section
/-! reference: X9_within, X9_limit, X9_undo, X9_redo, X9_fields, X9_liesFlat, X9_isNew, X9_sheet, X9_isCrease, X9_otherOf -/
theorem nb_dX9_within_0 : bls_w cX9_within [(0, [30]), (1, [32]), (2, [148]), (3, [155, 0, 14]), (6, [30]), (7, [22, 4]), (9, [148]), (10, [157, 0, 7]), (13, [4]), (14, [167, 0, 4]), (17, [3]), (18, [172])] := bls_of (by decide +kernel)
theorem dX9_within_0 : decode cX9_within 0 = .ok (.lload_n 0, 1) := op_30 nb_dX9_within_0.1
theorem dX9_within_1 : decode cX9_within 1 = .ok (.lload_n 2, 1) := op_32 nb_dX9_within_0.2.1
theorem dX9_within_2 : decode cX9_within 2 = .ok (.lcmp, 1) := op_148 nb_dX9_within_0.2.2.1
set_option maxRecDepth 100000 in
theorem dX9_within_3 : decode cX9_within 3 = .ok (.ifCond .lt 14, 3) := (op_155 nb_dX9_within_0.2.2.2.1).trans rfl
theorem dX9_within_6 : decode cX9_within 6 = .ok (.lload_n 0, 1) := op_30 nb_dX9_within_0.2.2.2.2.1
set_option maxRecDepth 100000 in
theorem dX9_within_7 : decode cX9_within 7 = .ok (.lload 4, 2) := (op_22 nb_dX9_within_0.2.2.2.2.2.1).trans rfl
theorem dX9_within_9 : decode cX9_within 9 = .ok (.lcmp, 1) := op_148 nb_dX9_within_0.2.2.2.2.2.2.1
set_option maxRecDepth 100000 in
theorem dX9_within_10 : decode cX9_within 10 = .ok (.ifCond .gt 7, 3) := (op_157 nb_dX9_within_0.2.2.2.2.2.2.2.1).trans rfl
theorem dX9_within_13 : decode cX9_within 13 = .ok (.iconst 1, 1) := op_4 nb_dX9_within_0.2.2.2.2.2.2.2.2.1
set_option maxRecDepth 100000 in
theorem dX9_within_14 : decode cX9_within 14 = .ok (.goto 4, 3) := (op_167 nb_dX9_within_0.2.2.2.2.2.2.2.2.2.1).trans rfl
theorem dX9_within_17 : decode cX9_within 17 = .ok (.iconst 0, 1) := op_3 nb_dX9_within_0.2.2.2.2.2.2.2.2.2.2.1
theorem dX9_within_18 : decode cX9_within 18 = .ok (.ireturn, 1) := op_172 nb_dX9_within_0.2.2.2.2.2.2.2.2.2.2.2.1
def fX9_within (N : Nat) (x0 : Int64) (x2 : Int64) (x4 : Int64) : Option (Bool) :=
    if (lg_cmp x0 x2) < 0 then
    (some (false))
    else (if 0 < (lg_cmp x0 x4) then
    (some (false))
    else (some (true)))

set_option maxHeartbeats 4000000 in
set_option maxRecDepth 100000 in
theorem ctX9_within {l : Launch} {D : va_G} {cI cL cS cH : ClassId} {x0 : Int64} {x2 : Int64} {x4 : Int64}  {r : Bool} {N d : Nat} (hd : 1 ≤ d) (hf : fX9_within N x0 x2 x4 = some r) : mm_Ct l yX9_within cX9_within 6 (some .boolean) d D (mm_T cI cL cS cH) [.long x0, .long x2, .long x4] ([] : va_W) ([] : va_W) (some (.int (mm_b r))) := by
  refine mm_of (by decide) (Nat.le_of_ble_eq_true rfl) ?_
  intro p e s m args below meth c A H locs ls C0 hP hD hA hS hl
  have C0 : mm_Cx p s m args meth c RX9 cX9_within 6 (some .boolean) D (mm_T cI cL cS cH) A := C0
  obtain ⟨hx, hb, hml, hown, hts, hr, hlocks, hK, hSt⟩ := id C0
  have hl : lv_has ls 6 [(0, .long x0), (2, .long x2), (4, .long x4)] := hl
  unfold fX9_within at hf
  refine lv_lload_n hx hb dX9_within_0 rfl (lv_at hl 0 rfl) ?_
  refine lv_lload_n hx hb dX9_within_1 rfl (lv_at hl 1 rfl) ?_
  refine W.lcmp hx hb dX9_within_2 ?_
  refine lv_if_lt (tgt := 17) hx hb dX9_within_3 (by decide) (fun c_1 => ?_) (fun c_1 => ?_)
  · have hf := mm_ip hf c_1
    refine lv_iconst (v := 0) hx hb dX9_within_17 (by decide) ?_
    obtain rfl := mm_inj1 hf
    exact mm_zret (v := false) C0 hP hD hS dX9_within_18 (by decide)
  · have hf := mm_in hf c_1
    refine lv_lload_n hx hb dX9_within_6 rfl (lv_at hl 0 rfl) ?_
    refine lv_lload hx hb dX9_within_7 (lv_at hl 2 rfl) ?_
    refine W.lcmp hx hb dX9_within_9 ?_
    refine lv_if_gt (tgt := 17) hx hb dX9_within_10 (by decide) (fun c_2 => ?_) (fun c_2 => ?_)
    · have hf := mm_ip hf c_2
      refine lv_iconst (v := 0) hx hb dX9_within_17 (by decide) ?_
      obtain rfl := mm_inj1 hf
      exact mm_zret (v := false) C0 hP hD hS dX9_within_18 (by decide)
    · have hf := mm_in hf c_2
      refine lv_iconst (v := 1) hx hb dX9_within_13 (by decide) ?_
      refine lv_goto (tgt := 18) hx hb dX9_within_14 (by decide) ?_
      obtain rfl := mm_inj1 hf
      exact mm_zret (v := true) C0 hP hD hS dX9_within_18 (by decide)

theorem nb_dX9_limit_0 : bls_w cX9_limit [(0, [27]), (1, [133]), (2, [10]), (3, [20, 0, 109]), (6, [184, 0, 111]), (9, [154, 0, 5]), (12, [2]), (13, [172]), (14, [42]), (15, [180, 0, 7]), (18, [3]), (19, [46])] := bls_of (by decide +kernel)
theorem dX9_limit_0 : decode cX9_limit 0 = .ok (.iload_n 1, 1) := op_27 nb_dX9_limit_0.1
theorem dX9_limit_1 : decode cX9_limit 1 = .ok (.i2l, 1) := op_133 nb_dX9_limit_0.2.1
theorem dX9_limit_2 : decode cX9_limit 2 = .ok (.lconst 1, 1) := op_10 nb_dX9_limit_0.2.2.1
set_option maxRecDepth 100000 in
theorem dX9_limit_3 : decode cX9_limit 3 = .ok (.ldc2_w 109, 3) := (op_20 nb_dX9_limit_0.2.2.2.1).trans rfl
set_option maxRecDepth 100000 in
theorem dX9_limit_6 : decode cX9_limit 6 = .ok (.invokestatic 111, 3) := (op_184 nb_dX9_limit_0.2.2.2.2.1).trans rfl
set_option maxRecDepth 100000 in
theorem dX9_limit_9 : decode cX9_limit 9 = .ok (.ifCond .ne 5, 3) := (op_154 nb_dX9_limit_0.2.2.2.2.2.1).trans rfl
theorem dX9_limit_12 : decode cX9_limit 12 = .ok (.iconst (-1), 1) := op_2 nb_dX9_limit_0.2.2.2.2.2.2.1
theorem dX9_limit_13 : decode cX9_limit 13 = .ok (.ireturn, 1) := op_172 nb_dX9_limit_0.2.2.2.2.2.2.2.1
theorem dX9_limit_14 : decode cX9_limit 14 = .ok (.aload_n 0, 1) := op_42 nb_dX9_limit_0.2.2.2.2.2.2.2.2.1
set_option maxRecDepth 100000 in
theorem dX9_limit_15 : decode cX9_limit 15 = .ok (.getfield 7, 3) := (op_180 nb_dX9_limit_0.2.2.2.2.2.2.2.2.2.1).trans rfl
theorem dX9_limit_18 : decode cX9_limit 18 = .ok (.iconst 0, 1) := op_3 nb_dX9_limit_0.2.2.2.2.2.2.2.2.2.2.1
theorem dX9_limit_19 : decode cX9_limit 19 = .ok (.iaload, 1) := op_46 nb_dX9_limit_0.2.2.2.2.2.2.2.2.2.2.2.1
theorem nb_dX9_limit_20 : bls_w cX9_limit [(20, [61]), (21, [28]), (22, [27]), (23, [160, 0, 5]), (26, [28]), (27, [172]), (28, [42]), (29, [180, 0, 115]), (32, [16, 40]), (34, [160, 0, 55]), (37, [4]), (38, [62])] := bls_of (by decide +kernel)
theorem dX9_limit_20 : decode cX9_limit 20 = .ok (.istore_n 2, 1) := op_61 nb_dX9_limit_20.1
theorem dX9_limit_21 : decode cX9_limit 21 = .ok (.iload_n 2, 1) := op_28 nb_dX9_limit_20.2.1
theorem dX9_limit_22 : decode cX9_limit 22 = .ok (.iload_n 1, 1) := op_27 nb_dX9_limit_20.2.2.1
set_option maxRecDepth 100000 in
theorem dX9_limit_23 : decode cX9_limit 23 = .ok (.if_icmp .ne 5, 3) := (op_160 nb_dX9_limit_20.2.2.2.1).trans rfl
theorem dX9_limit_26 : decode cX9_limit 26 = .ok (.iload_n 2, 1) := op_28 nb_dX9_limit_20.2.2.2.2.1
theorem dX9_limit_27 : decode cX9_limit 27 = .ok (.ireturn, 1) := op_172 nb_dX9_limit_20.2.2.2.2.2.1
theorem dX9_limit_28 : decode cX9_limit 28 = .ok (.aload_n 0, 1) := op_42 nb_dX9_limit_20.2.2.2.2.2.2.1
set_option maxRecDepth 100000 in
theorem dX9_limit_29 : decode cX9_limit 29 = .ok (.getfield 115, 3) := (op_180 nb_dX9_limit_20.2.2.2.2.2.2.2.1).trans rfl
set_option maxRecDepth 100000 in
theorem dX9_limit_32 : decode cX9_limit 32 = .ok (.bipush 40, 2) := (op_16 nb_dX9_limit_20.2.2.2.2.2.2.2.2.1).trans rfl
set_option maxRecDepth 100000 in
theorem dX9_limit_34 : decode cX9_limit 34 = .ok (.if_icmp .ne 55, 3) := (op_160 nb_dX9_limit_20.2.2.2.2.2.2.2.2.2.1).trans rfl
theorem dX9_limit_37 : decode cX9_limit 37 = .ok (.iconst 1, 1) := op_4 nb_dX9_limit_20.2.2.2.2.2.2.2.2.2.2.1
theorem dX9_limit_38 : decode cX9_limit 38 = .ok (.istore_n 3, 1) := op_62 nb_dX9_limit_20.2.2.2.2.2.2.2.2.2.2.2.1
theorem nb_dX9_limit_39 : bls_w cX9_limit [(39, [29]), (40, [16, 40]), (42, [162, 0, 37]), (45, [42]), (46, [180, 0, 13]), (49, [29]), (50, [4]), (51, [100]), (52, [42]), (53, [180, 0, 13]), (56, [29]), (57, [46])] := bls_of (by decide +kernel)
theorem dX9_limit_39 : decode cX9_limit 39 = .ok (.iload_n 3, 1) := op_29 nb_dX9_limit_39.1
set_option maxRecDepth 100000 in
theorem dX9_limit_40 : decode cX9_limit 40 = .ok (.bipush 40, 2) := (op_16 nb_dX9_limit_39.2.1).trans rfl
set_option maxRecDepth 100000 in
theorem dX9_limit_42 : decode cX9_limit 42 = .ok (.if_icmp .ge 37, 3) := (op_162 nb_dX9_limit_39.2.2.1).trans rfl
theorem dX9_limit_45 : decode cX9_limit 45 = .ok (.aload_n 0, 1) := op_42 nb_dX9_limit_39.2.2.2.1
set_option maxRecDepth 100000 in
theorem dX9_limit_46 : decode cX9_limit 46 = .ok (.getfield 13, 3) := (op_180 nb_dX9_limit_39.2.2.2.2.1).trans rfl
theorem dX9_limit_49 : decode cX9_limit 49 = .ok (.iload_n 3, 1) := op_29 nb_dX9_limit_39.2.2.2.2.2.1
theorem dX9_limit_50 : decode cX9_limit 50 = .ok (.iconst 1, 1) := op_4 nb_dX9_limit_39.2.2.2.2.2.2.1
theorem dX9_limit_51 : decode cX9_limit 51 = .ok (.isub, 1) := op_100 nb_dX9_limit_39.2.2.2.2.2.2.2.1
theorem dX9_limit_52 : decode cX9_limit 52 = .ok (.aload_n 0, 1) := op_42 nb_dX9_limit_39.2.2.2.2.2.2.2.2.1
set_option maxRecDepth 100000 in
theorem dX9_limit_53 : decode cX9_limit 53 = .ok (.getfield 13, 3) := (op_180 nb_dX9_limit_39.2.2.2.2.2.2.2.2.2.1).trans rfl
theorem dX9_limit_56 : decode cX9_limit 56 = .ok (.iload_n 3, 1) := op_29 nb_dX9_limit_39.2.2.2.2.2.2.2.2.2.2.1
theorem dX9_limit_57 : decode cX9_limit 57 = .ok (.iaload, 1) := op_46 nb_dX9_limit_39.2.2.2.2.2.2.2.2.2.2.2.1
theorem nb_dX9_limit_58 : bls_w cX9_limit [(58, [79]), (59, [42]), (60, [180, 0, 16]), (63, [29]), (64, [4]), (65, [100]), (66, [42]), (67, [180, 0, 16]), (70, [29]), (71, [46]), (72, [79]), (73, [132, 3, 1])] := bls_of (by decide +kernel)
theorem dX9_limit_58 : decode cX9_limit 58 = .ok (.iastore, 1) := op_79 nb_dX9_limit_58.1
theorem dX9_limit_59 : decode cX9_limit 59 = .ok (.aload_n 0, 1) := op_42 nb_dX9_limit_58.2.1
set_option maxRecDepth 100000 in
theorem dX9_limit_60 : decode cX9_limit 60 = .ok (.getfield 16, 3) := (op_180 nb_dX9_limit_58.2.2.1).trans rfl
theorem dX9_limit_63 : decode cX9_limit 63 = .ok (.iload_n 3, 1) := op_29 nb_dX9_limit_58.2.2.2.1
theorem dX9_limit_64 : decode cX9_limit 64 = .ok (.iconst 1, 1) := op_4 nb_dX9_limit_58.2.2.2.2.1
theorem dX9_limit_65 : decode cX9_limit 65 = .ok (.isub, 1) := op_100 nb_dX9_limit_58.2.2.2.2.2.1
theorem dX9_limit_66 : decode cX9_limit 66 = .ok (.aload_n 0, 1) := op_42 nb_dX9_limit_58.2.2.2.2.2.2.1
set_option maxRecDepth 100000 in
theorem dX9_limit_67 : decode cX9_limit 67 = .ok (.getfield 16, 3) := (op_180 nb_dX9_limit_58.2.2.2.2.2.2.2.1).trans rfl
theorem dX9_limit_70 : decode cX9_limit 70 = .ok (.iload_n 3, 1) := op_29 nb_dX9_limit_58.2.2.2.2.2.2.2.2.1
theorem dX9_limit_71 : decode cX9_limit 71 = .ok (.iaload, 1) := op_46 nb_dX9_limit_58.2.2.2.2.2.2.2.2.2.1
theorem dX9_limit_72 : decode cX9_limit 72 = .ok (.iastore, 1) := op_79 nb_dX9_limit_58.2.2.2.2.2.2.2.2.2.2.1
set_option maxRecDepth 100000 in
theorem dX9_limit_73 : decode cX9_limit 73 = .ok (.iinc 3 1, 3) := (op_132 nb_dX9_limit_58.2.2.2.2.2.2.2.2.2.2.2.1).trans rfl
theorem nb_dX9_limit_76 : bls_w cX9_limit [(76, [167, 255, 219]), (79, [42]), (80, [89]), (81, [180, 0, 115]), (84, [4]), (85, [100]), (86, [181, 0, 115]), (89, [42]), (90, [180, 0, 13]), (93, [42]), (94, [180, 0, 115]), (97, [28])] := bls_of (by decide +kernel)
set_option maxRecDepth 100000 in
theorem dX9_limit_76 : decode cX9_limit 76 = .ok (.goto (-37), 3) := (op_167 nb_dX9_limit_76.1).trans rfl
theorem dX9_limit_79 : decode cX9_limit 79 = .ok (.aload_n 0, 1) := op_42 nb_dX9_limit_76.2.1
theorem dX9_limit_80 : decode cX9_limit 80 = .ok (.dup, 1) := op_89 nb_dX9_limit_76.2.2.1
set_option maxRecDepth 100000 in
theorem dX9_limit_81 : decode cX9_limit 81 = .ok (.getfield 115, 3) := (op_180 nb_dX9_limit_76.2.2.2.1).trans rfl
theorem dX9_limit_84 : decode cX9_limit 84 = .ok (.iconst 1, 1) := op_4 nb_dX9_limit_76.2.2.2.2.1
theorem dX9_limit_85 : decode cX9_limit 85 = .ok (.isub, 1) := op_100 nb_dX9_limit_76.2.2.2.2.2.1
set_option maxRecDepth 100000 in
theorem dX9_limit_86 : decode cX9_limit 86 = .ok (.putfield 115, 3) := (op_181 nb_dX9_limit_76.2.2.2.2.2.2.1).trans rfl
theorem dX9_limit_89 : decode cX9_limit 89 = .ok (.aload_n 0, 1) := op_42 nb_dX9_limit_76.2.2.2.2.2.2.2.1
set_option maxRecDepth 100000 in
theorem dX9_limit_90 : decode cX9_limit 90 = .ok (.getfield 13, 3) := (op_180 nb_dX9_limit_76.2.2.2.2.2.2.2.2.1).trans rfl
theorem dX9_limit_93 : decode cX9_limit 93 = .ok (.aload_n 0, 1) := op_42 nb_dX9_limit_76.2.2.2.2.2.2.2.2.2.1
set_option maxRecDepth 100000 in
theorem dX9_limit_94 : decode cX9_limit 94 = .ok (.getfield 115, 3) := (op_180 nb_dX9_limit_76.2.2.2.2.2.2.2.2.2.2.1).trans rfl
theorem dX9_limit_97 : decode cX9_limit 97 = .ok (.iload_n 2, 1) := op_28 nb_dX9_limit_76.2.2.2.2.2.2.2.2.2.2.2.1
theorem nb_dX9_limit_98 : bls_w cX9_limit [(98, [79]), (99, [42]), (100, [180, 0, 16]), (103, [42]), (104, [180, 0, 115]), (107, [27]), (108, [79]), (109, [42]), (110, [89]), (111, [180, 0, 115]), (114, [4]), (115, [96])] := bls_of (by decide +kernel)
theorem dX9_limit_98 : decode cX9_limit 98 = .ok (.iastore, 1) := op_79 nb_dX9_limit_98.1
theorem dX9_limit_99 : decode cX9_limit 99 = .ok (.aload_n 0, 1) := op_42 nb_dX9_limit_98.2.1
set_option maxRecDepth 100000 in
theorem dX9_limit_100 : decode cX9_limit 100 = .ok (.getfield 16, 3) := (op_180 nb_dX9_limit_98.2.2.1).trans rfl
theorem dX9_limit_103 : decode cX9_limit 103 = .ok (.aload_n 0, 1) := op_42 nb_dX9_limit_98.2.2.2.1
set_option maxRecDepth 100000 in
theorem dX9_limit_104 : decode cX9_limit 104 = .ok (.getfield 115, 3) := (op_180 nb_dX9_limit_98.2.2.2.2.1).trans rfl
theorem dX9_limit_107 : decode cX9_limit 107 = .ok (.iload_n 1, 1) := op_27 nb_dX9_limit_98.2.2.2.2.2.1
theorem dX9_limit_108 : decode cX9_limit 108 = .ok (.iastore, 1) := op_79 nb_dX9_limit_98.2.2.2.2.2.2.1
theorem dX9_limit_109 : decode cX9_limit 109 = .ok (.aload_n 0, 1) := op_42 nb_dX9_limit_98.2.2.2.2.2.2.2.1
theorem dX9_limit_110 : decode cX9_limit 110 = .ok (.dup, 1) := op_89 nb_dX9_limit_98.2.2.2.2.2.2.2.2.1
set_option maxRecDepth 100000 in
theorem dX9_limit_111 : decode cX9_limit 111 = .ok (.getfield 115, 3) := (op_180 nb_dX9_limit_98.2.2.2.2.2.2.2.2.2.1).trans rfl
theorem dX9_limit_114 : decode cX9_limit 114 = .ok (.iconst 1, 1) := op_4 nb_dX9_limit_98.2.2.2.2.2.2.2.2.2.2.1
theorem dX9_limit_115 : decode cX9_limit 115 = .ok (.iadd, 1) := op_96 nb_dX9_limit_98.2.2.2.2.2.2.2.2.2.2.2.1
theorem nb_dX9_limit_116 : bls_w cX9_limit [(116, [181, 0, 115]), (119, [42]), (120, [42]), (121, [180, 0, 115]), (124, [181, 0, 118]), (127, [42]), (128, [180, 0, 7]), (131, [3]), (132, [27]), (133, [79]), (134, [28]), (135, [172])] := bls_of (by decide +kernel)
set_option maxRecDepth 100000 in
theorem dX9_limit_116 : decode cX9_limit 116 = .ok (.putfield 115, 3) := (op_181 nb_dX9_limit_116.1).trans rfl
theorem dX9_limit_119 : decode cX9_limit 119 = .ok (.aload_n 0, 1) := op_42 nb_dX9_limit_116.2.1
theorem dX9_limit_120 : decode cX9_limit 120 = .ok (.aload_n 0, 1) := op_42 nb_dX9_limit_116.2.2.1
set_option maxRecDepth 100000 in
theorem dX9_limit_121 : decode cX9_limit 121 = .ok (.getfield 115, 3) := (op_180 nb_dX9_limit_116.2.2.2.1).trans rfl
set_option maxRecDepth 100000 in
theorem dX9_limit_124 : decode cX9_limit 124 = .ok (.putfield 118, 3) := (op_181 nb_dX9_limit_116.2.2.2.2.1).trans rfl
theorem dX9_limit_127 : decode cX9_limit 127 = .ok (.aload_n 0, 1) := op_42 nb_dX9_limit_116.2.2.2.2.2.1
set_option maxRecDepth 100000 in
theorem dX9_limit_128 : decode cX9_limit 128 = .ok (.getfield 7, 3) := (op_180 nb_dX9_limit_116.2.2.2.2.2.2.1).trans rfl
theorem dX9_limit_131 : decode cX9_limit 131 = .ok (.iconst 0, 1) := op_3 nb_dX9_limit_116.2.2.2.2.2.2.2.1
theorem dX9_limit_132 : decode cX9_limit 132 = .ok (.iload_n 1, 1) := op_27 nb_dX9_limit_116.2.2.2.2.2.2.2.2.1
theorem dX9_limit_133 : decode cX9_limit 133 = .ok (.iastore, 1) := op_79 nb_dX9_limit_116.2.2.2.2.2.2.2.2.2.1
theorem dX9_limit_134 : decode cX9_limit 134 = .ok (.iload_n 2, 1) := op_28 nb_dX9_limit_116.2.2.2.2.2.2.2.2.2.2.1
theorem dX9_limit_135 : decode cX9_limit 135 = .ok (.ireturn, 1) := op_172 nb_dX9_limit_116.2.2.2.2.2.2.2.2.2.2.2.1
def fX9_limit_89 (N : Nat)  (x1 : Int32) (x2 : Int32) (v_keptMany : Int32) (v_done : Int32) (v_limit : List Int32) (v_changeWas : List Int32) (v_changeIs : List Int32) : Option (Int32 × Int32 × Int32 × List Int32 × List Int32 × List Int32) :=
    mm_ck (mm_inb v_done v_changeWas.length) (mm_nm (mm_is v_changeWas v_done x2) (fun (l_20 : List Int32) =>
    mm_ck (mm_inb v_done v_changeIs.length) (mm_nm (mm_is v_changeIs v_done x1) (fun (l_22 : List Int32) =>
    mm_nm ((v_done + (1 : Int32))) (fun (y_23 : Int32) =>
    mm_ck (mm_inb (0 : Int32) v_limit.length) (mm_nm (mm_is v_limit (0 : Int32) x1) (fun (l_25 : List Int32) =>
    some (x2, y_23, y_23, l_25, l_20, l_22))))))))

set_option maxHeartbeats 4000000 in
set_option maxRecDepth 100000 in
theorem tX9_limit_89 {p : Program} {l : Launch} {e : Env} {s : State} {m : MethodId} {args : Array Value} {below : List Frame} {meth : Method} {c : Code} {D : va_G} {cI cL cS cH : ClassId} {A : Nat → Prop} {d : Nat} {a : Nat → Nat} (hd : 2 ≤ d) (C0 : mm_Cx p s m args meth c RX9 cX9_limit 4 (some .int) D (mm_T cI cL cS cH) A) (hA : ∀ q, s.heap.size ≤ q → A q) {v_rowsOf : Int32} {v_columnsOf : Int32} {v_folded : Int32} {v_wronged : Int32} {v_tapeMany : Int32} {v_textMany : Int32} {v_base : Int32} {v_at : Int32} {v_ends : Int32} {v_fault : Int32} {v_opened : Int32} {v_bentMany : Int32} {v_bentWrong : Int32} {v_moreWorn : Int32} {v_planned : Int32} {v_allWrong : Int32} {v_allWorn : Int32} {v_z : Int32} {v_wishedField : Int32} {v_isFound : Bool} {v_bestWrong : Int32} {v_bestWorn : Int32} {v_bestMany : Int32} {v_soughtBy : Int32} {v_sought : Int32} {v_soughtAt : Int32} {v_foundMany : Int32} {v_foundOrder : Int32} {v_isKept : Bool} {v_imageRows : Int32} {v_imageColumns : Int32} {v_imageFolded : Int32} {v_imageWronged : Int32} {v_bodies : Int32} {v_ran : Int32} {v_ownKind : Int32} {v_ownNumber : Int32} {v_shapeRows : List Int32} {v_shapeColumns : List Int32} {v_row : List Int32} {v_column : List Int32} {v_below : List Int32} {v_face : List Int32} {v_worn : List Int32} {v_lastBend : List Int32} {v_tape : List Int32} {v_text : List Int32} {v_names : List Int32} {v_bends : List Int32} {v_high : List Int32} {v_to : List Int32} {v_pileSize : List Int32} {v_planLine : List Int32} {v_planWay : List Int32} {v_way1 : List Int32} {v_bestWay : List Int32} {v_order1 : List Int32} {v_placeIn : List Int32} {v_bodyKind : List Int32} {v_trace : List Int32} {v_shelf : List Int32} {v_many : List Int32} {v_items : List Int64} {v_carried : List Int64} {r : Int32} {w_keptMany : Int32} {w_done : Int32} {w_limit : List Int32} {w_changeWas : List Int32} {w_changeIs : List Int32} (N : Nat)  : ∀ (x1 : Int32) (x2 : Int32) (v_keptMany : Int32) (v_done : Int32) (v_limit : List Int32) (v_changeWas : List Int32) (v_changeIs : List Int32) (H : Heap) (locs : List Loc) (ls : Array Slot), fX9_limit_89 N x1 x2 v_keptMany v_done v_limit v_changeWas v_changeIs = some (r, w_keptMany, w_done, w_limit, w_changeWas, w_changeIs) → va_P D mm_cl (wd_X9 cI cL cS cH a v_keptMany v_done v_rowsOf v_columnsOf v_folded v_wronged v_tapeMany v_textMany v_base v_at v_ends v_fault v_opened v_bentMany v_bentWrong v_moreWorn v_planned v_allWrong v_allWorn v_z v_wishedField v_isFound v_bestWrong v_bestWorn v_bestMany v_soughtBy v_sought v_soughtAt v_foundMany v_foundOrder v_isKept v_imageRows v_imageColumns v_imageFolded v_imageWronged v_bodies v_ran v_ownKind v_ownNumber v_limit v_changeWas v_changeIs v_shapeRows v_shapeColumns v_row v_column v_below v_face v_worn v_lastBend v_tape v_text v_names v_bends v_high v_to v_pileSize v_planLine v_planWay v_way1 v_bestWay v_order1 v_placeIn v_bodyKind v_trace v_shelf v_many v_items v_carried) H → va_D A (wd_X9 cI cL cS cH a v_keptMany v_done v_rowsOf v_columnsOf v_folded v_wronged v_tapeMany v_textMany v_base v_at v_ends v_fault v_opened v_bentMany v_bentWrong v_moreWorn v_planned v_allWrong v_allWorn v_z v_wishedField v_isFound v_bestWrong v_bestWorn v_bestMany v_soughtBy v_sought v_soughtAt v_foundMany v_foundOrder v_isKept v_imageRows v_imageColumns v_imageFolded v_imageWronged v_bodies v_ran v_ownKind v_ownNumber v_limit v_changeWas v_changeIs v_shapeRows v_shapeColumns v_row v_column v_below v_face v_worn v_lastBend v_tape v_text v_names v_bends v_high v_to v_pileSize v_planLine v_planWay v_way1 v_bestWay v_order1 v_placeIn v_bodyKind v_trace v_shelf v_many v_items v_carried) → va_S A s.heap H locs → lv_has ls 4 [(0, .ref (a 0)), (1, .int x1), (2, .int x2)] → W p l e (mm_rr d) s m args below meth c H locs 0 0 (mm_Z below D A (wd_X9 cI cL cS cH a w_keptMany w_done v_rowsOf v_columnsOf v_folded v_wronged v_tapeMany v_textMany v_base v_at v_ends v_fault v_opened v_bentMany v_bentWrong v_moreWorn v_planned v_allWrong v_allWorn v_z v_wishedField v_isFound v_bestWrong v_bestWorn v_bestMany v_soughtBy v_sought v_soughtAt v_foundMany v_foundOrder v_isKept v_imageRows v_imageColumns v_imageFolded v_imageWronged v_bodies v_ran v_ownKind v_ownNumber w_limit w_changeWas w_changeIs v_shapeRows v_shapeColumns v_row v_column v_below v_face v_worn v_lastBend v_tape v_text v_names v_bends v_high v_to v_pileSize v_planLine v_planWay v_way1 v_bestWay v_order1 v_placeIn v_bodyKind v_trace v_shelf v_many v_items v_carried) (some (.int r)) args s) (F0 m 89 ls []) := by
  obtain ⟨hx, hb, hml, hown, hts, hr, hlocks, hK, hSt⟩ := id C0
  intro x1 x2 v_keptMany v_done v_limit v_changeWas v_changeIs H locs ls hf hP hD hS hl
  unfold fX9_limit_89 at hf
  refine lv_aload_n hx hb dX9_limit_89 rfl (lv_at hl 0 rfl) ?_
  refine mm_get C0 hP iw_X9 0 rfl rfl 1 (by decide) fl_X9_13 rfl dX9_limit_90 ?_
  refine lv_aload_n hx hb dX9_limit_93 rfl (lv_at hl 0 rfl) ?_
  refine mm_get C0 hP iw_X9 0 rfl rfl 4 (by decide) fl_X9_115 rfl dX9_limit_94 ?_
  refine lv_iload_n hx hb dX9_limit_97 rfl (lv_at hl 2 rfl) ?_
  obtain ⟨h_19, hf⟩ := mm_cks hf
  refine mm_iast C0 hP hD hS 2 rfl h_19 dX9_limit_98 (w2 := (wd_X9 cI cL cS cH a v_keptMany v_done v_rowsOf v_columnsOf v_folded v_wronged v_tapeMany v_textMany v_base v_at v_ends v_fault v_opened v_bentMany v_bentWrong v_moreWorn v_planned v_allWrong v_allWorn v_z v_wishedField v_isFound v_bestWrong v_bestWorn v_bestMany v_soughtBy v_sought v_soughtAt v_foundMany v_foundOrder v_isKept v_imageRows v_imageColumns v_imageFolded v_imageWronged v_bodies v_ran v_ownKind v_ownNumber v_limit (mm_is v_changeWas v_done x2) v_changeIs v_shapeRows v_shapeColumns v_row v_column v_below v_face v_worn v_lastBend v_tape v_text v_names v_bends v_high v_to v_pileSize v_planLine v_planWay v_way1 v_bestWay v_order1 v_placeIn v_bodyKind v_trace v_shelf v_many v_items v_carried)) rfl (fun H locs hP hD hS => ?_)
  generalize el_20 : (mm_is v_changeWas v_done x2) = l_20 at hP hD
  have hf := mm_nms hf el_20.symm
  refine lv_aload_n hx hb dX9_limit_99 rfl (lv_at hl 0 rfl) ?_
  refine mm_get C0 hP iw_X9 0 rfl rfl 2 (by decide) fl_X9_16 rfl dX9_limit_100 ?_
  refine lv_aload_n hx hb dX9_limit_103 rfl (lv_at hl 0 rfl) ?_
  refine mm_get C0 hP iw_X9 0 rfl rfl 4 (by decide) fl_X9_115 rfl dX9_limit_104 ?_
  refine lv_iload_n hx hb dX9_limit_107 rfl (lv_at hl 1 rfl) ?_
  obtain ⟨h_21, hf⟩ := mm_cks hf
  refine mm_iast C0 hP hD hS 3 rfl h_21 dX9_limit_108 (w2 := (wd_X9 cI cL cS cH a v_keptMany v_done v_rowsOf v_columnsOf v_folded v_wronged v_tapeMany v_textMany v_base v_at v_ends v_fault v_opened v_bentMany v_bentWrong v_moreWorn v_planned v_allWrong v_allWorn v_z v_wishedField v_isFound v_bestWrong v_bestWorn v_bestMany v_soughtBy v_sought v_soughtAt v_foundMany v_foundOrder v_isKept v_imageRows v_imageColumns v_imageFolded v_imageWronged v_bodies v_ran v_ownKind v_ownNumber v_limit l_20 (mm_is v_changeIs v_done x1) v_shapeRows v_shapeColumns v_row v_column v_below v_face v_worn v_lastBend v_tape v_text v_names v_bends v_high v_to v_pileSize v_planLine v_planWay v_way1 v_bestWay v_order1 v_placeIn v_bodyKind v_trace v_shelf v_many v_items v_carried)) rfl (fun H locs hP hD hS => ?_)
  generalize el_22 : (mm_is v_changeIs v_done x1) = l_22 at hP hD
  have hf := mm_nms hf el_22.symm
  refine lv_aload_n hx hb dX9_limit_109 rfl (lv_at hl 0 rfl) ?_
  refine lv_dup hx hb dX9_limit_110 rfl ?_
  refine mm_get C0 hP iw_X9 0 rfl rfl 4 (by decide) fl_X9_115 rfl dX9_limit_111 ?_
  refine lv_iconst (v := 1) hx hb dX9_limit_114 (by decide) ?_
  refine lv_iadd hx hb dX9_limit_115 ?_
  refine lv_topi (fun y_23 ey_23 => ?_)
  have hf := mm_nms hf ey_23
  refine mm_put C0 hP hD hS iw_X9 tyX9 tyX9_ok nmX9 0 rfl rfl 4 (by decide) fl_X9_115 rfl rfl rfl (Nat.le_of_ble_eq_true rfl) dX9_limit_116 (w2 := (wd_X9 cI cL cS cH a v_keptMany y_23 v_rowsOf v_columnsOf v_folded v_wronged v_tapeMany v_textMany v_base v_at v_ends v_fault v_opened v_bentMany v_bentWrong v_moreWorn v_planned v_allWrong v_allWorn v_z v_wishedField v_isFound v_bestWrong v_bestWorn v_bestMany v_soughtBy v_sought v_soughtAt v_foundMany v_foundOrder v_isKept v_imageRows v_imageColumns v_imageFolded v_imageWronged v_bodies v_ran v_ownKind v_ownNumber v_limit l_20 l_22 v_shapeRows v_shapeColumns v_row v_column v_below v_face v_worn v_lastBend v_tape v_text v_names v_bends v_high v_to v_pileSize v_planLine v_planWay v_way1 v_bestWay v_order1 v_placeIn v_bodyKind v_trace v_shelf v_many v_items v_carried)) rfl (fun H locs hP hD hS => ?_)
  refine lv_aload_n hx hb dX9_limit_119 rfl (lv_at hl 0 rfl) ?_
  refine lv_aload_n hx hb dX9_limit_120 rfl (lv_at hl 0 rfl) ?_
  refine mm_get C0 hP iw_X9 0 rfl rfl 4 (by decide) fl_X9_115 rfl dX9_limit_121 ?_
  refine mm_put C0 hP hD hS iw_X9 tyX9 tyX9_ok nmX9 0 rfl rfl 3 (by decide) fl_X9_118 rfl rfl rfl (Nat.le_of_ble_eq_true rfl) dX9_limit_124 (w2 := (wd_X9 cI cL cS cH a y_23 y_23 v_rowsOf v_columnsOf v_folded v_wronged v_tapeMany v_textMany v_base v_at v_ends v_fault v_opened v_bentMany v_bentWrong v_moreWorn v_planned v_allWrong v_allWorn v_z v_wishedField v_isFound v_bestWrong v_bestWorn v_bestMany v_soughtBy v_sought v_soughtAt v_foundMany v_foundOrder v_isKept v_imageRows v_imageColumns v_imageFolded v_imageWronged v_bodies v_ran v_ownKind v_ownNumber v_limit l_20 l_22 v_shapeRows v_shapeColumns v_row v_column v_below v_face v_worn v_lastBend v_tape v_text v_names v_bends v_high v_to v_pileSize v_planLine v_planWay v_way1 v_bestWay v_order1 v_placeIn v_bodyKind v_trace v_shelf v_many v_items v_carried)) rfl (fun H locs hP hD hS => ?_)
  refine lv_aload_n hx hb dX9_limit_127 rfl (lv_at hl 0 rfl) ?_
  refine mm_get C0 hP iw_X9 0 rfl rfl 0 (by decide) fl_X9_7 rfl dX9_limit_128 ?_
  refine lv_iconst (v := 0) hx hb dX9_limit_131 (by decide) ?_
  refine lv_iload_n hx hb dX9_limit_132 rfl (lv_at hl 1 rfl) ?_
  obtain ⟨h_24, hf⟩ := mm_cks hf
  refine mm_iast C0 hP hD hS 1 rfl h_24 dX9_limit_133 (w2 := (wd_X9 cI cL cS cH a y_23 y_23 v_rowsOf v_columnsOf v_folded v_wronged v_tapeMany v_textMany v_base v_at v_ends v_fault v_opened v_bentMany v_bentWrong v_moreWorn v_planned v_allWrong v_allWorn v_z v_wishedField v_isFound v_bestWrong v_bestWorn v_bestMany v_soughtBy v_sought v_soughtAt v_foundMany v_foundOrder v_isKept v_imageRows v_imageColumns v_imageFolded v_imageWronged v_bodies v_ran v_ownKind v_ownNumber (mm_is v_limit (0 : Int32) x1) l_20 l_22 v_shapeRows v_shapeColumns v_row v_column v_below v_face v_worn v_lastBend v_tape v_text v_names v_bends v_high v_to v_pileSize v_planLine v_planWay v_way1 v_bestWay v_order1 v_placeIn v_bodyKind v_trace v_shelf v_many v_items v_carried)) rfl (fun H locs hP hD hS => ?_)
  generalize el_25 : (mm_is v_limit (0 : Int32) x1) = l_25 at hP hD
  have hf := mm_nms hf el_25.symm
  refine lv_iload_n hx hb dX9_limit_134 rfl (lv_at hl 2 rfl) ?_
  apply mm_sub6 hf
  exact mm_iret C0 hP hD hS dX9_limit_135

def fX9_limit_39 (N : Nat)  : Nat → Int32 → Int32 → Int32 → Int32 → Int32 → List Int32 → List Int32 → List Int32 → Option (Int32 × Int32 × Int32 × List Int32 × List Int32 × List Int32)
  | 0 => fun _ _ _ _ _ _ _ _ => none
  | n + 1 => fun x1 x2 x3 v_keptMany v_done v_limit v_changeWas v_changeIs =>
    if (40 : Int32) ≤ x3 then
    (mm_nm ((v_done - (1 : Int32))) (fun (y_9 : Int32) =>
    fX9_limit_89 N x1 x2 v_keptMany y_9 v_limit v_changeWas v_changeIs))
    else (mm_ck (mm_inb x3 v_changeWas.length) (mm_nm ((mm_ig v_changeWas x3)) (fun (y_11 : Int32) =>
    mm_ck (mm_inb (x3 - (1 : Int32)) v_changeWas.length) (mm_nm (mm_is v_changeWas (x3 - (1 : Int32)) y_11) (fun (l_13 : List Int32) =>
    mm_ck (mm_inb x3 v_changeIs.length) (mm_nm ((mm_ig v_changeIs x3)) (fun (y_15 : Int32) =>
    mm_ck (mm_inb (x3 - (1 : Int32)) v_changeIs.length) (mm_nm (mm_is v_changeIs (x3 - (1 : Int32)) y_15) (fun (l_17 : List Int32) =>
    mm_nm (x3 + (1 : Int32)) (fun (y_18 : Int32) =>
    fX9_limit_39 N n x1 x2 y_18 v_keptMany v_done v_limit l_13 l_17))))))))))

set_option maxHeartbeats 4000000 in
set_option maxRecDepth 100000 in
theorem tX9_limit_39 {p : Program} {l : Launch} {e : Env} {s : State} {m : MethodId} {args : Array Value} {below : List Frame} {meth : Method} {c : Code} {D : va_G} {cI cL cS cH : ClassId} {A : Nat → Prop} {d : Nat} {a : Nat → Nat} (hd : 2 ≤ d) (C0 : mm_Cx p s m args meth c RX9 cX9_limit 4 (some .int) D (mm_T cI cL cS cH) A) (hA : ∀ q, s.heap.size ≤ q → A q) {v_rowsOf : Int32} {v_columnsOf : Int32} {v_folded : Int32} {v_wronged : Int32} {v_tapeMany : Int32} {v_textMany : Int32} {v_base : Int32} {v_at : Int32} {v_ends : Int32} {v_fault : Int32} {v_opened : Int32} {v_bentMany : Int32} {v_bentWrong : Int32} {v_moreWorn : Int32} {v_planned : Int32} {v_allWrong : Int32} {v_allWorn : Int32} {v_z : Int32} {v_wishedField : Int32} {v_isFound : Bool} {v_bestWrong : Int32} {v_bestWorn : Int32} {v_bestMany : Int32} {v_soughtBy : Int32} {v_sought : Int32} {v_soughtAt : Int32} {v_foundMany : Int32} {v_foundOrder : Int32} {v_isKept : Bool} {v_imageRows : Int32} {v_imageColumns : Int32} {v_imageFolded : Int32} {v_imageWronged : Int32} {v_bodies : Int32} {v_ran : Int32} {v_ownKind : Int32} {v_ownNumber : Int32} {v_shapeRows : List Int32} {v_shapeColumns : List Int32} {v_row : List Int32} {v_column : List Int32} {v_below : List Int32} {v_face : List Int32} {v_worn : List Int32} {v_lastBend : List Int32} {v_tape : List Int32} {v_text : List Int32} {v_names : List Int32} {v_bends : List Int32} {v_high : List Int32} {v_to : List Int32} {v_pileSize : List Int32} {v_planLine : List Int32} {v_planWay : List Int32} {v_way1 : List Int32} {v_bestWay : List Int32} {v_order1 : List Int32} {v_placeIn : List Int32} {v_bodyKind : List Int32} {v_trace : List Int32} {v_shelf : List Int32} {v_many : List Int32} {v_items : List Int64} {v_carried : List Int64} {r : Int32} {w_keptMany : Int32} {w_done : Int32} {w_limit : List Int32} {w_changeWas : List Int32} {w_changeIs : List Int32} (N : Nat)  : ∀ (n : Nat), ∀ (x1 : Int32) (x2 : Int32) (x3 : Int32) (v_keptMany : Int32) (v_done : Int32) (v_limit : List Int32) (v_changeWas : List Int32) (v_changeIs : List Int32) (H : Heap) (locs : List Loc) (ls : Array Slot), fX9_limit_39 N n x1 x2 x3 v_keptMany v_done v_limit v_changeWas v_changeIs = some (r, w_keptMany, w_done, w_limit, w_changeWas, w_changeIs) → va_P D mm_cl (wd_X9 cI cL cS cH a v_keptMany v_done v_rowsOf v_columnsOf v_folded v_wronged v_tapeMany v_textMany v_base v_at v_ends v_fault v_opened v_bentMany v_bentWrong v_moreWorn v_planned v_allWrong v_allWorn v_z v_wishedField v_isFound v_bestWrong v_bestWorn v_bestMany v_soughtBy v_sought v_soughtAt v_foundMany v_foundOrder v_isKept v_imageRows v_imageColumns v_imageFolded v_imageWronged v_bodies v_ran v_ownKind v_ownNumber v_limit v_changeWas v_changeIs v_shapeRows v_shapeColumns v_row v_column v_below v_face v_worn v_lastBend v_tape v_text v_names v_bends v_high v_to v_pileSize v_planLine v_planWay v_way1 v_bestWay v_order1 v_placeIn v_bodyKind v_trace v_shelf v_many v_items v_carried) H → va_D A (wd_X9 cI cL cS cH a v_keptMany v_done v_rowsOf v_columnsOf v_folded v_wronged v_tapeMany v_textMany v_base v_at v_ends v_fault v_opened v_bentMany v_bentWrong v_moreWorn v_planned v_allWrong v_allWorn v_z v_wishedField v_isFound v_bestWrong v_bestWorn v_bestMany v_soughtBy v_sought v_soughtAt v_foundMany v_foundOrder v_isKept v_imageRows v_imageColumns v_imageFolded v_imageWronged v_bodies v_ran v_ownKind v_ownNumber v_limit v_changeWas v_changeIs v_shapeRows v_shapeColumns v_row v_column v_below v_face v_worn v_lastBend v_tape v_text v_names v_bends v_high v_to v_pileSize v_planLine v_planWay v_way1 v_bestWay v_order1 v_placeIn v_bodyKind v_trace v_shelf v_many v_items v_carried) → va_S A s.heap H locs → lv_has ls 4 [(0, .ref (a 0)), (1, .int x1), (2, .int x2), (3, .int x3)] → W p l e (mm_rr d) s m args below meth c H locs 0 0 (mm_Z below D A (wd_X9 cI cL cS cH a w_keptMany w_done v_rowsOf v_columnsOf v_folded v_wronged v_tapeMany v_textMany v_base v_at v_ends v_fault v_opened v_bentMany v_bentWrong v_moreWorn v_planned v_allWrong v_allWorn v_z v_wishedField v_isFound v_bestWrong v_bestWorn v_bestMany v_soughtBy v_sought v_soughtAt v_foundMany v_foundOrder v_isKept v_imageRows v_imageColumns v_imageFolded v_imageWronged v_bodies v_ran v_ownKind v_ownNumber w_limit w_changeWas w_changeIs v_shapeRows v_shapeColumns v_row v_column v_below v_face v_worn v_lastBend v_tape v_text v_names v_bends v_high v_to v_pileSize v_planLine v_planWay v_way1 v_bestWay v_order1 v_placeIn v_bodyKind v_trace v_shelf v_many v_items v_carried) (some (.int r)) args s) (F0 m 39 ls []) := by
  obtain ⟨hx, hb, hml, hown, hts, hr, hlocks, hK, hSt⟩ := id C0
  intro n
  induction n with
  | zero =>
    intro x1 x2 x3 v_keptMany v_done v_limit v_changeWas v_changeIs H locs ls hf
    cases (show none = some _ from hf)
  | succ n ih =>
    intro x1 x2 x3 v_keptMany v_done v_limit v_changeWas v_changeIs H locs ls hf hP hD hS hl
    unfold fX9_limit_39 at hf
    refine lv_iload_n hx hb dX9_limit_39 rfl (lv_at hl 3 rfl) ?_
    refine lv_bipush (v := 40) hx hb dX9_limit_40 (by decide) ?_
    refine lv_icmp_ge (tgt := 79) hx hb dX9_limit_42 (by decide) (fun c_8 => ?_) (fun c_8 => ?_)
    · have hf := mm_ip hf c_8
      refine lv_aload_n hx hb dX9_limit_79 rfl (lv_at hl 0 rfl) ?_
      refine lv_dup hx hb dX9_limit_80 rfl ?_
      refine mm_get C0 hP iw_X9 0 rfl rfl 4 (by decide) fl_X9_115 rfl dX9_limit_81 ?_
      refine lv_iconst (v := 1) hx hb dX9_limit_84 (by decide) ?_
      refine lv_isub hx hb dX9_limit_85 ?_
      refine lv_topi (fun y_9 ey_9 => ?_)
      have hf := mm_nms hf ey_9
      refine mm_put C0 hP hD hS iw_X9 tyX9 tyX9_ok nmX9 0 rfl rfl 4 (by decide) fl_X9_115 rfl rfl rfl (Nat.le_of_ble_eq_true rfl) dX9_limit_86 (w2 := (wd_X9 cI cL cS cH a v_keptMany y_9 v_rowsOf v_columnsOf v_folded v_wronged v_tapeMany v_textMany v_base v_at v_ends v_fault v_opened v_bentMany v_bentWrong v_moreWorn v_planned v_allWrong v_allWorn v_z v_wishedField v_isFound v_bestWrong v_bestWorn v_bestMany v_soughtBy v_sought v_soughtAt v_foundMany v_foundOrder v_isKept v_imageRows v_imageColumns v_imageFolded v_imageWronged v_bodies v_ran v_ownKind v_ownNumber v_limit v_changeWas v_changeIs v_shapeRows v_shapeColumns v_row v_column v_below v_face v_worn v_lastBend v_tape v_text v_names v_bends v_high v_to v_pileSize v_planLine v_planWay v_way1 v_bestWay v_order1 v_placeIn v_bodyKind v_trace v_shelf v_many v_items v_carried)) rfl (fun H locs hP hD hS => ?_)
      exact tX9_limit_89 hd C0 hA N  _ _ _ _ _ _ _ H locs ls hf hP hD hS (lv_sub hl [0, 1, 2] rfl)
    · have hf := mm_in hf c_8
      refine lv_aload_n hx hb dX9_limit_45 rfl (lv_at hl 0 rfl) ?_
      refine mm_get C0 hP iw_X9 0 rfl rfl 1 (by decide) fl_X9_13 rfl dX9_limit_46 ?_
      refine lv_iload_n hx hb dX9_limit_49 rfl (lv_at hl 3 rfl) ?_
      refine lv_iconst (v := 1) hx hb dX9_limit_50 (by decide) ?_
      refine lv_isub hx hb dX9_limit_51 ?_
      refine lv_aload_n hx hb dX9_limit_52 rfl (lv_at hl 0 rfl) ?_
      refine mm_get C0 hP iw_X9 0 rfl rfl 1 (by decide) fl_X9_13 rfl dX9_limit_53 ?_
      refine lv_iload_n hx hb dX9_limit_56 rfl (lv_at hl 3 rfl) ?_
      obtain ⟨h_10, hf⟩ := mm_cks hf
      refine mm_iald C0 hP 2 rfl h_10 dX9_limit_57 ?_
      refine lv_topi (fun y_11 ey_11 => ?_)
      have hf := mm_nms hf ey_11
      obtain ⟨h_12, hf⟩ := mm_cks hf
      refine mm_iast C0 hP hD hS 2 rfl h_12 dX9_limit_58 (w2 := (wd_X9 cI cL cS cH a v_keptMany v_done v_rowsOf v_columnsOf v_folded v_wronged v_tapeMany v_textMany v_base v_at v_ends v_fault v_opened v_bentMany v_bentWrong v_moreWorn v_planned v_allWrong v_allWorn v_z v_wishedField v_isFound v_bestWrong v_bestWorn v_bestMany v_soughtBy v_sought v_soughtAt v_foundMany v_foundOrder v_isKept v_imageRows v_imageColumns v_imageFolded v_imageWronged v_bodies v_ran v_ownKind v_ownNumber v_limit (mm_is v_changeWas (x3 - (1 : Int32)) y_11) v_changeIs v_shapeRows v_shapeColumns v_row v_column v_below v_face v_worn v_lastBend v_tape v_text v_names v_bends v_high v_to v_pileSize v_planLine v_planWay v_way1 v_bestWay v_order1 v_placeIn v_bodyKind v_trace v_shelf v_many v_items v_carried)) rfl (fun H locs hP hD hS => ?_)
      generalize el_13 : (mm_is v_changeWas (x3 - (1 : Int32)) y_11) = l_13 at hP hD
      have hf := mm_nms hf el_13.symm
      refine lv_aload_n hx hb dX9_limit_59 rfl (lv_at hl 0 rfl) ?_
      refine mm_get C0 hP iw_X9 0 rfl rfl 2 (by decide) fl_X9_16 rfl dX9_limit_60 ?_
      refine lv_iload_n hx hb dX9_limit_63 rfl (lv_at hl 3 rfl) ?_
      refine lv_iconst (v := 1) hx hb dX9_limit_64 (by decide) ?_
      refine lv_isub hx hb dX9_limit_65 ?_
      refine lv_aload_n hx hb dX9_limit_66 rfl (lv_at hl 0 rfl) ?_
      refine mm_get C0 hP iw_X9 0 rfl rfl 2 (by decide) fl_X9_16 rfl dX9_limit_67 ?_
      refine lv_iload_n hx hb dX9_limit_70 rfl (lv_at hl 3 rfl) ?_
      obtain ⟨h_14, hf⟩ := mm_cks hf
      refine mm_iald C0 hP 3 rfl h_14 dX9_limit_71 ?_
      refine lv_topi (fun y_15 ey_15 => ?_)
      have hf := mm_nms hf ey_15
      obtain ⟨h_16, hf⟩ := mm_cks hf
      refine mm_iast C0 hP hD hS 3 rfl h_16 dX9_limit_72 (w2 := (wd_X9 cI cL cS cH a v_keptMany v_done v_rowsOf v_columnsOf v_folded v_wronged v_tapeMany v_textMany v_base v_at v_ends v_fault v_opened v_bentMany v_bentWrong v_moreWorn v_planned v_allWrong v_allWorn v_z v_wishedField v_isFound v_bestWrong v_bestWorn v_bestMany v_soughtBy v_sought v_soughtAt v_foundMany v_foundOrder v_isKept v_imageRows v_imageColumns v_imageFolded v_imageWronged v_bodies v_ran v_ownKind v_ownNumber v_limit l_13 (mm_is v_changeIs (x3 - (1 : Int32)) y_15) v_shapeRows v_shapeColumns v_row v_column v_below v_face v_worn v_lastBend v_tape v_text v_names v_bends v_high v_to v_pileSize v_planLine v_planWay v_way1 v_bestWay v_order1 v_placeIn v_bodyKind v_trace v_shelf v_many v_items v_carried)) rfl (fun H locs hP hD hS => ?_)
      generalize el_17 : (mm_is v_changeIs (x3 - (1 : Int32)) y_15) = l_17 at hP hD
      have hf := mm_nms hf el_17.symm
      obtain ⟨y_18, ey_18⟩ : ∃ z : Int32, z = x3 + (1 : Int32) := ⟨_, rfl⟩
      have hf := mm_nms hf ey_18
      refine lv_iinc (v := y_18) (lv' := [(3, .int y_18), (0, .ref (a 0)), (1, .int x1), (2, .int x2)]) hx hb dX9_limit_73 hl (k := 3) rfl (by rw [ey_18]; rfl) (by decide) rfl (fun ls hl => ?_)
      refine lv_goto (tgt := 39) hx hb dX9_limit_76 (by decide) ?_
      exact ih _ _ _ _ _ _ _ _ H locs ls hf hP hD hS (lv_sub hl [1, 2, 3, 0] rfl)

def fX9_limit (N : Nat) (x1 : Int32) (v_keptMany : Int32) (v_done : Int32) (v_limit : List Int32) (v_changeWas : List Int32) (v_changeIs : List Int32) : Option (Int32 × Int32 × Int32 × List Int32 × List Int32 × List Int32) :=
    mm_bd1 (fX9_within N ((x1).toInt64) (1 : Int64) (99 : Int64)) (fun (r_1 : Bool) =>
    if r_1 = false then
    (some ((-1 : Int32), v_keptMany, v_done, v_limit, v_changeWas, v_changeIs))
    else (mm_ck (mm_inb (0 : Int32) v_limit.length) (mm_nm ((mm_ig v_limit (0 : Int32))) (fun (y_5 : Int32) =>
    if y_5 = x1 then
    (some (y_5, v_keptMany, v_done, v_limit, v_changeWas, v_changeIs))
    else (if v_done = (40 : Int32) then
    (fX9_limit_39 N N x1 y_5 (1 : Int32) v_keptMany v_done v_limit v_changeWas v_changeIs)
    else (fX9_limit_89 N x1 y_5 v_keptMany v_done v_limit v_changeWas v_changeIs))))))

set_option maxHeartbeats 4000000 in
set_option maxRecDepth 100000 in
theorem ctX9_limit {l : Launch} {D : va_G} {cI cL cS cH : ClassId} {a : Nat → Nat} {x1 : Int32} {v_keptMany : Int32} {v_done : Int32} {v_rowsOf : Int32} {v_columnsOf : Int32} {v_folded : Int32} {v_wronged : Int32} {v_tapeMany : Int32} {v_textMany : Int32} {v_base : Int32} {v_at : Int32} {v_ends : Int32} {v_fault : Int32} {v_opened : Int32} {v_bentMany : Int32} {v_bentWrong : Int32} {v_moreWorn : Int32} {v_planned : Int32} {v_allWrong : Int32} {v_allWorn : Int32} {v_z : Int32} {v_wishedField : Int32} {v_isFound : Bool} {v_bestWrong : Int32} {v_bestWorn : Int32} {v_bestMany : Int32} {v_soughtBy : Int32} {v_sought : Int32} {v_soughtAt : Int32} {v_foundMany : Int32} {v_foundOrder : Int32} {v_isKept : Bool} {v_imageRows : Int32} {v_imageColumns : Int32} {v_imageFolded : Int32} {v_imageWronged : Int32} {v_bodies : Int32} {v_ran : Int32} {v_ownKind : Int32} {v_ownNumber : Int32} {v_limit : List Int32} {v_changeWas : List Int32} {v_changeIs : List Int32} {v_shapeRows : List Int32} {v_shapeColumns : List Int32} {v_row : List Int32} {v_column : List Int32} {v_below : List Int32} {v_face : List Int32} {v_worn : List Int32} {v_lastBend : List Int32} {v_tape : List Int32} {v_text : List Int32} {v_names : List Int32} {v_bends : List Int32} {v_high : List Int32} {v_to : List Int32} {v_pileSize : List Int32} {v_planLine : List Int32} {v_planWay : List Int32} {v_way1 : List Int32} {v_bestWay : List Int32} {v_order1 : List Int32} {v_placeIn : List Int32} {v_bodyKind : List Int32} {v_trace : List Int32} {v_shelf : List Int32} {v_many : List Int32} {v_items : List Int64} {v_carried : List Int64} {r : Int32} {w_keptMany : Int32} {w_done : Int32} {w_limit : List Int32} {w_changeWas : List Int32} {w_changeIs : List Int32} {N d : Nat} (hd : 2 ≤ d) (hf : fX9_limit N x1 v_keptMany v_done v_limit v_changeWas v_changeIs = some (r, w_keptMany, w_done, w_limit, w_changeWas, w_changeIs)) : mm_Ct l yX9_limit cX9_limit 4 (some .int) d D (mm_T cI cL cS cH) [.ref (a 0), .int x1] (wd_X9 cI cL cS cH a v_keptMany v_done v_rowsOf v_columnsOf v_folded v_wronged v_tapeMany v_textMany v_base v_at v_ends v_fault v_opened v_bentMany v_bentWrong v_moreWorn v_planned v_allWrong v_allWorn v_z v_wishedField v_isFound v_bestWrong v_bestWorn v_bestMany v_soughtBy v_sought v_soughtAt v_foundMany v_foundOrder v_isKept v_imageRows v_imageColumns v_imageFolded v_imageWronged v_bodies v_ran v_ownKind v_ownNumber v_limit v_changeWas v_changeIs v_shapeRows v_shapeColumns v_row v_column v_below v_face v_worn v_lastBend v_tape v_text v_names v_bends v_high v_to v_pileSize v_planLine v_planWay v_way1 v_bestWay v_order1 v_placeIn v_bodyKind v_trace v_shelf v_many v_items v_carried) (wd_X9 cI cL cS cH a w_keptMany w_done v_rowsOf v_columnsOf v_folded v_wronged v_tapeMany v_textMany v_base v_at v_ends v_fault v_opened v_bentMany v_bentWrong v_moreWorn v_planned v_allWrong v_allWorn v_z v_wishedField v_isFound v_bestWrong v_bestWorn v_bestMany v_soughtBy v_sought v_soughtAt v_foundMany v_foundOrder v_isKept v_imageRows v_imageColumns v_imageFolded v_imageWronged v_bodies v_ran v_ownKind v_ownNumber w_limit w_changeWas w_changeIs v_shapeRows v_shapeColumns v_row v_column v_below v_face v_worn v_lastBend v_tape v_text v_names v_bends v_high v_to v_pileSize v_planLine v_planWay v_way1 v_bestWay v_order1 v_placeIn v_bodyKind v_trace v_shelf v_many v_items v_carried) (some (.int r)) := by
  refine mm_of (by decide) (Nat.le_of_ble_eq_true rfl) ?_
  intro p e s m args below meth c A H locs ls C0 hP hD hA hS hl
  have C0 : mm_Cx p s m args meth c RX9 cX9_limit 4 (some .int) D (mm_T cI cL cS cH) A := C0
  obtain ⟨hx, hb, hml, hown, hts, hr, hlocks, hK, hSt⟩ := id C0
  have hl : lv_has ls 4 [(0, .ref (a 0)), (1, .int x1)] := hl
  unfold fX9_limit at hf
  refine lv_iload_n hx hb dX9_limit_0 rfl (lv_at hl 1 rfl) ?_
  refine lv_i2l hx hb dX9_limit_1 rfl ?_
  refine lv_lconst (v := 1) hx hb dX9_limit_2 (by decide) ?_
  refine lv_ldc2 hx hb hown (hts _ kc_X9_109) dX9_limit_3 ?_
  obtain ⟨r_1, hc_2, hf⟩ := mm_bd1s hf
  refine mm_callS0 (rest := []) C0 lk_X9_111 (ctX9_within (d := d - 1) (by omega) hc_2) (by omega) rfl hl.1 rfl (mm_cat rfl) dX9_limit_6 hP hD hA hS (fun H locs hP hS => ?_)
  refine W.eq (g2 := F0 m 9 ls [.int (mm_b r_1)]) rfl ?_
  refine lv_if_ne (tgt := 14) hx hb dX9_limit_9 (by decide) (fun c_3 => ?_) (fun c_3 => ?_)
  · have hf := mm_in hf (mm_b1 c_3)
    refine lv_aload_n hx hb dX9_limit_14 rfl (lv_at hl 0 rfl) ?_
    refine mm_get C0 hP iw_X9 0 rfl rfl 0 (by decide) fl_X9_7 rfl dX9_limit_15 ?_
    refine lv_iconst (v := 0) hx hb dX9_limit_18 (by decide) ?_
    obtain ⟨h_4, hf⟩ := mm_cks hf
    refine mm_iald C0 hP 1 rfl h_4 dX9_limit_19 ?_
    refine lv_topi (fun y_5 ey_5 => ?_)
    have hf := mm_nms hf ey_5
    refine lv_istore_n (lv' := [(2, .int y_5), (0, .ref (a 0)), (1, .int x1)]) hx hb dX9_limit_20 rfl hl (by decide) rfl (fun ls hl => ?_)
    refine lv_iload_n hx hb dX9_limit_21 rfl (lv_at hl 0 rfl) ?_
    refine lv_iload_n hx hb dX9_limit_22 rfl (lv_at hl 2 rfl) ?_
    refine lv_icmp_ne (tgt := 28) hx hb dX9_limit_23 (by decide) (fun c_6 => ?_) (fun c_6 => ?_)
    · have hf := mm_in hf c_6
      refine lv_aload_n hx hb dX9_limit_28 rfl (lv_at hl 1 rfl) ?_
      refine mm_get C0 hP iw_X9 0 rfl rfl 4 (by decide) fl_X9_115 rfl dX9_limit_29 ?_
      refine lv_bipush (v := 40) hx hb dX9_limit_32 (by decide) ?_
      refine lv_icmp_ne (tgt := 89) hx hb dX9_limit_34 (by decide) (fun c_7 => ?_) (fun c_7 => ?_)
      · have hf := mm_in hf c_7
        exact tX9_limit_89 hd C0 hA N  _ _ _ _ _ _ _ H locs ls hf hP hD hS (lv_sub hl [1, 2, 0] rfl)
      · have hf := mm_ip hf c_7
        refine lv_iconst (v := 1) hx hb dX9_limit_37 (by decide) ?_
        refine lv_istore_n (lv' := [(3, .int (1 : Int32)), (2, .int y_5), (0, .ref (a 0)), (1, .int x1)]) hx hb dX9_limit_38 rfl hl (by decide) rfl (fun ls hl => ?_)
        exact tX9_limit_39 hd C0 hA N  N _ _ _ _ _ _ _ _ H locs ls hf hP hD hS (lv_sub hl [2, 3, 1, 0] rfl)
    · have hf := mm_ip hf c_6
      refine lv_iload_n hx hb dX9_limit_26 rfl (lv_at hl 0 rfl) ?_
      apply mm_sub6 hf
      exact mm_iret C0 hP hD hS dX9_limit_27
  · have hf := mm_ip hf (mm_b0 c_3)
    refine lv_iconst (v := -1) hx hb dX9_limit_12 (by decide) ?_
    apply mm_sub6 hf
    exact mm_iret C0 hP hD hS dX9_limit_13

theorem nb_dX9_undo_0 : bls_w cX9_undo [(0, [42]), (1, [180, 0, 115]), (4, [154, 0, 6]), (7, [16, 251]), (9, [172]), (10, [42]), (11, [89]), (12, [180, 0, 115]), (15, [4]), (16, [100]), (17, [181, 0, 115]), (20, [42])] := bls_of (by decide +kernel)
theorem dX9_undo_0 : decode cX9_undo 0 = .ok (.aload_n 0, 1) := op_42 nb_dX9_undo_0.1
set_option maxRecDepth 100000 in
theorem dX9_undo_1 : decode cX9_undo 1 = .ok (.getfield 115, 3) := (op_180 nb_dX9_undo_0.2.1).trans rfl
set_option maxRecDepth 100000 in
theorem dX9_undo_4 : decode cX9_undo 4 = .ok (.ifCond .ne 6, 3) := (op_154 nb_dX9_undo_0.2.2.1).trans rfl
set_option maxRecDepth 100000 in
theorem dX9_undo_7 : decode cX9_undo 7 = .ok (.bipush (-5), 2) := (op_16 nb_dX9_undo_0.2.2.2.1).trans rfl
theorem dX9_undo_9 : decode cX9_undo 9 = .ok (.ireturn, 1) := op_172 nb_dX9_undo_0.2.2.2.2.1
theorem dX9_undo_10 : decode cX9_undo 10 = .ok (.aload_n 0, 1) := op_42 nb_dX9_undo_0.2.2.2.2.2.1
theorem dX9_undo_11 : decode cX9_undo 11 = .ok (.dup, 1) := op_89 nb_dX9_undo_0.2.2.2.2.2.2.1
set_option maxRecDepth 100000 in
theorem dX9_undo_12 : decode cX9_undo 12 = .ok (.getfield 115, 3) := (op_180 nb_dX9_undo_0.2.2.2.2.2.2.2.1).trans rfl
theorem dX9_undo_15 : decode cX9_undo 15 = .ok (.iconst 1, 1) := op_4 nb_dX9_undo_0.2.2.2.2.2.2.2.2.1
theorem dX9_undo_16 : decode cX9_undo 16 = .ok (.isub, 1) := op_100 nb_dX9_undo_0.2.2.2.2.2.2.2.2.2.1
set_option maxRecDepth 100000 in
theorem dX9_undo_17 : decode cX9_undo 17 = .ok (.putfield 115, 3) := (op_181 nb_dX9_undo_0.2.2.2.2.2.2.2.2.2.2.1).trans rfl
theorem dX9_undo_20 : decode cX9_undo 20 = .ok (.aload_n 0, 1) := op_42 nb_dX9_undo_0.2.2.2.2.2.2.2.2.2.2.2.1
theorem nb_dX9_undo_21 : bls_w cX9_undo [(21, [180, 0, 7]), (24, [3]), (25, [42]), (26, [180, 0, 13]), (29, [42]), (30, [180, 0, 115]), (33, [46]), (34, [79]), (35, [42]), (36, [180, 0, 115]), (39, [172])] := bls_of (by decide +kernel)
set_option maxRecDepth 100000 in
theorem dX9_undo_21 : decode cX9_undo 21 = .ok (.getfield 7, 3) := (op_180 nb_dX9_undo_21.1).trans rfl
theorem dX9_undo_24 : decode cX9_undo 24 = .ok (.iconst 0, 1) := op_3 nb_dX9_undo_21.2.1
theorem dX9_undo_25 : decode cX9_undo 25 = .ok (.aload_n 0, 1) := op_42 nb_dX9_undo_21.2.2.1
set_option maxRecDepth 100000 in
theorem dX9_undo_26 : decode cX9_undo 26 = .ok (.getfield 13, 3) := (op_180 nb_dX9_undo_21.2.2.2.1).trans rfl
theorem dX9_undo_29 : decode cX9_undo 29 = .ok (.aload_n 0, 1) := op_42 nb_dX9_undo_21.2.2.2.2.1
set_option maxRecDepth 100000 in
theorem dX9_undo_30 : decode cX9_undo 30 = .ok (.getfield 115, 3) := (op_180 nb_dX9_undo_21.2.2.2.2.2.1).trans rfl
theorem dX9_undo_33 : decode cX9_undo 33 = .ok (.iaload, 1) := op_46 nb_dX9_undo_21.2.2.2.2.2.2.1
theorem dX9_undo_34 : decode cX9_undo 34 = .ok (.iastore, 1) := op_79 nb_dX9_undo_21.2.2.2.2.2.2.2.1
theorem dX9_undo_35 : decode cX9_undo 35 = .ok (.aload_n 0, 1) := op_42 nb_dX9_undo_21.2.2.2.2.2.2.2.2.1
set_option maxRecDepth 100000 in
theorem dX9_undo_36 : decode cX9_undo 36 = .ok (.getfield 115, 3) := (op_180 nb_dX9_undo_21.2.2.2.2.2.2.2.2.2.1).trans rfl
theorem dX9_undo_39 : decode cX9_undo 39 = .ok (.ireturn, 1) := op_172 nb_dX9_undo_21.2.2.2.2.2.2.2.2.2.2.1
def fX9_undo (N : Nat) (v_done : Int32) (v_limit : List Int32) (v_changeWas : List Int32) : Option (Int32 × Int32 × List Int32) :=
    if v_done = 0 then
    (some ((-5 : Int32), v_done, v_limit))
    else (mm_nm ((v_done - (1 : Int32))) (fun (y_2 : Int32) =>
    mm_ck (mm_inb y_2 v_changeWas.length) (mm_nm ((mm_ig v_changeWas y_2)) (fun (y_4 : Int32) =>
    mm_ck (mm_inb (0 : Int32) v_limit.length) (mm_nm (mm_is v_limit (0 : Int32) y_4) (fun (l_6 : List Int32) =>
    some (y_2, y_2, l_6)))))))

set_option maxHeartbeats 4000000 in
set_option maxRecDepth 100000 in
theorem ctX9_undo {l : Launch} {D : va_G} {cI cL cS cH : ClassId} {a : Nat → Nat}  {v_keptMany : Int32} {v_done : Int32} {v_rowsOf : Int32} {v_columnsOf : Int32} {v_folded : Int32} {v_wronged : Int32} {v_tapeMany : Int32} {v_textMany : Int32} {v_base : Int32} {v_at : Int32} {v_ends : Int32} {v_fault : Int32} {v_opened : Int32} {v_bentMany : Int32} {v_bentWrong : Int32} {v_moreWorn : Int32} {v_planned : Int32} {v_allWrong : Int32} {v_allWorn : Int32} {v_z : Int32} {v_wishedField : Int32} {v_isFound : Bool} {v_bestWrong : Int32} {v_bestWorn : Int32} {v_bestMany : Int32} {v_soughtBy : Int32} {v_sought : Int32} {v_soughtAt : Int32} {v_foundMany : Int32} {v_foundOrder : Int32} {v_isKept : Bool} {v_imageRows : Int32} {v_imageColumns : Int32} {v_imageFolded : Int32} {v_imageWronged : Int32} {v_bodies : Int32} {v_ran : Int32} {v_ownKind : Int32} {v_ownNumber : Int32} {v_limit : List Int32} {v_changeWas : List Int32} {v_changeIs : List Int32} {v_shapeRows : List Int32} {v_shapeColumns : List Int32} {v_row : List Int32} {v_column : List Int32} {v_below : List Int32} {v_face : List Int32} {v_worn : List Int32} {v_lastBend : List Int32} {v_tape : List Int32} {v_text : List Int32} {v_names : List Int32} {v_bends : List Int32} {v_high : List Int32} {v_to : List Int32} {v_pileSize : List Int32} {v_planLine : List Int32} {v_planWay : List Int32} {v_way1 : List Int32} {v_bestWay : List Int32} {v_order1 : List Int32} {v_placeIn : List Int32} {v_bodyKind : List Int32} {v_trace : List Int32} {v_shelf : List Int32} {v_many : List Int32} {v_items : List Int64} {v_carried : List Int64} {r : Int32} {w_done : Int32} {w_limit : List Int32} {N d : Nat} (hd : 1 ≤ d) (hf : fX9_undo N v_done v_limit v_changeWas = some (r, w_done, w_limit)) : mm_Ct l yX9_undo cX9_undo 1 (some .int) d D (mm_T cI cL cS cH) [.ref (a 0)] (wd_X9 cI cL cS cH a v_keptMany v_done v_rowsOf v_columnsOf v_folded v_wronged v_tapeMany v_textMany v_base v_at v_ends v_fault v_opened v_bentMany v_bentWrong v_moreWorn v_planned v_allWrong v_allWorn v_z v_wishedField v_isFound v_bestWrong v_bestWorn v_bestMany v_soughtBy v_sought v_soughtAt v_foundMany v_foundOrder v_isKept v_imageRows v_imageColumns v_imageFolded v_imageWronged v_bodies v_ran v_ownKind v_ownNumber v_limit v_changeWas v_changeIs v_shapeRows v_shapeColumns v_row v_column v_below v_face v_worn v_lastBend v_tape v_text v_names v_bends v_high v_to v_pileSize v_planLine v_planWay v_way1 v_bestWay v_order1 v_placeIn v_bodyKind v_trace v_shelf v_many v_items v_carried) (wd_X9 cI cL cS cH a v_keptMany w_done v_rowsOf v_columnsOf v_folded v_wronged v_tapeMany v_textMany v_base v_at v_ends v_fault v_opened v_bentMany v_bentWrong v_moreWorn v_planned v_allWrong v_allWorn v_z v_wishedField v_isFound v_bestWrong v_bestWorn v_bestMany v_soughtBy v_sought v_soughtAt v_foundMany v_foundOrder v_isKept v_imageRows v_imageColumns v_imageFolded v_imageWronged v_bodies v_ran v_ownKind v_ownNumber w_limit v_changeWas v_changeIs v_shapeRows v_shapeColumns v_row v_column v_below v_face v_worn v_lastBend v_tape v_text v_names v_bends v_high v_to v_pileSize v_planLine v_planWay v_way1 v_bestWay v_order1 v_placeIn v_bodyKind v_trace v_shelf v_many v_items v_carried) (some (.int r)) := by
  refine mm_of (by decide) (Nat.le_of_ble_eq_true rfl) ?_
  intro p e s m args below meth c A H locs ls C0 hP hD hA hS hl
  have C0 : mm_Cx p s m args meth c RX9 cX9_undo 1 (some .int) D (mm_T cI cL cS cH) A := C0
  obtain ⟨hx, hb, hml, hown, hts, hr, hlocks, hK, hSt⟩ := id C0
  have hl : lv_has ls 1 [(0, .ref (a 0))] := hl
  unfold fX9_undo at hf
  refine lv_aload_n hx hb dX9_undo_0 rfl (lv_at hl 0 rfl) ?_
  refine mm_get C0 hP iw_X9 0 rfl rfl 4 (by decide) fl_X9_115 rfl dX9_undo_1 ?_
  refine lv_if_ne (tgt := 10) hx hb dX9_undo_4 (by decide) (fun c_1 => ?_) (fun c_1 => ?_)
  · have hf := mm_in hf c_1
    refine lv_aload_n hx hb dX9_undo_10 rfl (lv_at hl 0 rfl) ?_
    refine lv_dup hx hb dX9_undo_11 rfl ?_
    refine mm_get C0 hP iw_X9 0 rfl rfl 4 (by decide) fl_X9_115 rfl dX9_undo_12 ?_
    refine lv_iconst (v := 1) hx hb dX9_undo_15 (by decide) ?_
    refine lv_isub hx hb dX9_undo_16 ?_
    refine lv_topi (fun y_2 ey_2 => ?_)
    have hf := mm_nms hf ey_2
    refine mm_put C0 hP hD hS iw_X9 tyX9 tyX9_ok nmX9 0 rfl rfl 4 (by decide) fl_X9_115 rfl rfl rfl (Nat.le_of_ble_eq_true rfl) dX9_undo_17 (w2 := (wd_X9 cI cL cS cH a v_keptMany y_2 v_rowsOf v_columnsOf v_folded v_wronged v_tapeMany v_textMany v_base v_at v_ends v_fault v_opened v_bentMany v_bentWrong v_moreWorn v_planned v_allWrong v_allWorn v_z v_wishedField v_isFound v_bestWrong v_bestWorn v_bestMany v_soughtBy v_sought v_soughtAt v_foundMany v_foundOrder v_isKept v_imageRows v_imageColumns v_imageFolded v_imageWronged v_bodies v_ran v_ownKind v_ownNumber v_limit v_changeWas v_changeIs v_shapeRows v_shapeColumns v_row v_column v_below v_face v_worn v_lastBend v_tape v_text v_names v_bends v_high v_to v_pileSize v_planLine v_planWay v_way1 v_bestWay v_order1 v_placeIn v_bodyKind v_trace v_shelf v_many v_items v_carried)) rfl (fun H locs hP hD hS => ?_)
    refine lv_aload_n hx hb dX9_undo_20 rfl (lv_at hl 0 rfl) ?_
    refine mm_get C0 hP iw_X9 0 rfl rfl 0 (by decide) fl_X9_7 rfl dX9_undo_21 ?_
    refine lv_iconst (v := 0) hx hb dX9_undo_24 (by decide) ?_
    refine lv_aload_n hx hb dX9_undo_25 rfl (lv_at hl 0 rfl) ?_
    refine mm_get C0 hP iw_X9 0 rfl rfl 1 (by decide) fl_X9_13 rfl dX9_undo_26 ?_
    refine lv_aload_n hx hb dX9_undo_29 rfl (lv_at hl 0 rfl) ?_
    refine mm_get C0 hP iw_X9 0 rfl rfl 4 (by decide) fl_X9_115 rfl dX9_undo_30 ?_
    obtain ⟨h_3, hf⟩ := mm_cks hf
    refine mm_iald C0 hP 2 rfl h_3 dX9_undo_33 ?_
    refine lv_topi (fun y_4 ey_4 => ?_)
    have hf := mm_nms hf ey_4
    obtain ⟨h_5, hf⟩ := mm_cks hf
    refine mm_iast C0 hP hD hS 1 rfl h_5 dX9_undo_34 (w2 := (wd_X9 cI cL cS cH a v_keptMany y_2 v_rowsOf v_columnsOf v_folded v_wronged v_tapeMany v_textMany v_base v_at v_ends v_fault v_opened v_bentMany v_bentWrong v_moreWorn v_planned v_allWrong v_allWorn v_z v_wishedField v_isFound v_bestWrong v_bestWorn v_bestMany v_soughtBy v_sought v_soughtAt v_foundMany v_foundOrder v_isKept v_imageRows v_imageColumns v_imageFolded v_imageWronged v_bodies v_ran v_ownKind v_ownNumber (mm_is v_limit (0 : Int32) y_4) v_changeWas v_changeIs v_shapeRows v_shapeColumns v_row v_column v_below v_face v_worn v_lastBend v_tape v_text v_names v_bends v_high v_to v_pileSize v_planLine v_planWay v_way1 v_bestWay v_order1 v_placeIn v_bodyKind v_trace v_shelf v_many v_items v_carried)) rfl (fun H locs hP hD hS => ?_)
    generalize el_6 : (mm_is v_limit (0 : Int32) y_4) = l_6 at hP hD
    have hf := mm_nms hf el_6.symm
    refine lv_aload_n hx hb dX9_undo_35 rfl (lv_at hl 0 rfl) ?_
    refine mm_get C0 hP iw_X9 0 rfl rfl 4 (by decide) fl_X9_115 rfl dX9_undo_36 ?_
    apply mm_sub3 hf
    exact mm_iret C0 hP hD hS dX9_undo_39
  · have hf := mm_ip hf c_1
    refine lv_bipush (v := -5) hx hb dX9_undo_7 (by decide) ?_
    apply mm_sub3 hf
    exact mm_iret C0 hP hD hS dX9_undo_9

theorem nb_dX9_redo_0 : bls_w cX9_redo [(0, [42]), (1, [180, 0, 115]), (4, [42]), (5, [180, 0, 118]), (8, [160, 0, 6]), (11, [16, 251]), (13, [172]), (14, [42]), (15, [180, 0, 7]), (18, [3]), (19, [42]), (20, [180, 0, 16])] := bls_of (by decide +kernel)
theorem dX9_redo_0 : decode cX9_redo 0 = .ok (.aload_n 0, 1) := op_42 nb_dX9_redo_0.1
set_option maxRecDepth 100000 in
theorem dX9_redo_1 : decode cX9_redo 1 = .ok (.getfield 115, 3) := (op_180 nb_dX9_redo_0.2.1).trans rfl
theorem dX9_redo_4 : decode cX9_redo 4 = .ok (.aload_n 0, 1) := op_42 nb_dX9_redo_0.2.2.1
set_option maxRecDepth 100000 in
theorem dX9_redo_5 : decode cX9_redo 5 = .ok (.getfield 118, 3) := (op_180 nb_dX9_redo_0.2.2.2.1).trans rfl
set_option maxRecDepth 100000 in
theorem dX9_redo_8 : decode cX9_redo 8 = .ok (.if_icmp .ne 6, 3) := (op_160 nb_dX9_redo_0.2.2.2.2.1).trans rfl
set_option maxRecDepth 100000 in
theorem dX9_redo_11 : decode cX9_redo 11 = .ok (.bipush (-5), 2) := (op_16 nb_dX9_redo_0.2.2.2.2.2.1).trans rfl
theorem dX9_redo_13 : decode cX9_redo 13 = .ok (.ireturn, 1) := op_172 nb_dX9_redo_0.2.2.2.2.2.2.1
theorem dX9_redo_14 : decode cX9_redo 14 = .ok (.aload_n 0, 1) := op_42 nb_dX9_redo_0.2.2.2.2.2.2.2.1
set_option maxRecDepth 100000 in
theorem dX9_redo_15 : decode cX9_redo 15 = .ok (.getfield 7, 3) := (op_180 nb_dX9_redo_0.2.2.2.2.2.2.2.2.1).trans rfl
theorem dX9_redo_18 : decode cX9_redo 18 = .ok (.iconst 0, 1) := op_3 nb_dX9_redo_0.2.2.2.2.2.2.2.2.2.1
theorem dX9_redo_19 : decode cX9_redo 19 = .ok (.aload_n 0, 1) := op_42 nb_dX9_redo_0.2.2.2.2.2.2.2.2.2.2.1
set_option maxRecDepth 100000 in
theorem dX9_redo_20 : decode cX9_redo 20 = .ok (.getfield 16, 3) := (op_180 nb_dX9_redo_0.2.2.2.2.2.2.2.2.2.2.2.1).trans rfl
theorem nb_dX9_redo_23 : bls_w cX9_redo [(23, [42]), (24, [180, 0, 115]), (27, [46]), (28, [79]), (29, [42]), (30, [89]), (31, [180, 0, 115]), (34, [4]), (35, [96]), (36, [181, 0, 115]), (39, [42]), (40, [180, 0, 118])] := bls_of (by decide +kernel)
theorem dX9_redo_23 : decode cX9_redo 23 = .ok (.aload_n 0, 1) := op_42 nb_dX9_redo_23.1
set_option maxRecDepth 100000 in
theorem dX9_redo_24 : decode cX9_redo 24 = .ok (.getfield 115, 3) := (op_180 nb_dX9_redo_23.2.1).trans rfl
theorem dX9_redo_27 : decode cX9_redo 27 = .ok (.iaload, 1) := op_46 nb_dX9_redo_23.2.2.1
theorem dX9_redo_28 : decode cX9_redo 28 = .ok (.iastore, 1) := op_79 nb_dX9_redo_23.2.2.2.1
theorem dX9_redo_29 : decode cX9_redo 29 = .ok (.aload_n 0, 1) := op_42 nb_dX9_redo_23.2.2.2.2.1
theorem dX9_redo_30 : decode cX9_redo 30 = .ok (.dup, 1) := op_89 nb_dX9_redo_23.2.2.2.2.2.1
set_option maxRecDepth 100000 in
theorem dX9_redo_31 : decode cX9_redo 31 = .ok (.getfield 115, 3) := (op_180 nb_dX9_redo_23.2.2.2.2.2.2.1).trans rfl
theorem dX9_redo_34 : decode cX9_redo 34 = .ok (.iconst 1, 1) := op_4 nb_dX9_redo_23.2.2.2.2.2.2.2.1
theorem dX9_redo_35 : decode cX9_redo 35 = .ok (.iadd, 1) := op_96 nb_dX9_redo_23.2.2.2.2.2.2.2.2.1
set_option maxRecDepth 100000 in
theorem dX9_redo_36 : decode cX9_redo 36 = .ok (.putfield 115, 3) := (op_181 nb_dX9_redo_23.2.2.2.2.2.2.2.2.2.1).trans rfl
theorem dX9_redo_39 : decode cX9_redo 39 = .ok (.aload_n 0, 1) := op_42 nb_dX9_redo_23.2.2.2.2.2.2.2.2.2.2.1
set_option maxRecDepth 100000 in
theorem dX9_redo_40 : decode cX9_redo 40 = .ok (.getfield 118, 3) := (op_180 nb_dX9_redo_23.2.2.2.2.2.2.2.2.2.2.2.1).trans rfl
theorem nb_dX9_redo_43 : bls_w cX9_redo [(43, [42]), (44, [180, 0, 115]), (47, [100]), (48, [172])] := bls_of (by decide +kernel)
theorem dX9_redo_43 : decode cX9_redo 43 = .ok (.aload_n 0, 1) := op_42 nb_dX9_redo_43.1
set_option maxRecDepth 100000 in
theorem dX9_redo_44 : decode cX9_redo 44 = .ok (.getfield 115, 3) := (op_180 nb_dX9_redo_43.2.1).trans rfl
theorem dX9_redo_47 : decode cX9_redo 47 = .ok (.isub, 1) := op_100 nb_dX9_redo_43.2.2.1
theorem dX9_redo_48 : decode cX9_redo 48 = .ok (.ireturn, 1) := op_172 nb_dX9_redo_43.2.2.2.1
def fX9_redo (N : Nat) (v_keptMany : Int32) (v_done : Int32) (v_limit : List Int32) (v_changeIs : List Int32) : Option (Int32 × Int32 × List Int32) :=
    if v_done = v_keptMany then
    (some ((-5 : Int32), v_done, v_limit))
    else (mm_ck (mm_inb v_done v_changeIs.length) (mm_nm ((mm_ig v_changeIs v_done)) (fun (y_3 : Int32) =>
    mm_ck (mm_inb (0 : Int32) v_limit.length) (mm_nm (mm_is v_limit (0 : Int32) y_3) (fun (l_5 : List Int32) =>
    mm_nm ((v_done + (1 : Int32))) (fun (y_6 : Int32) =>
    some ((v_keptMany - y_6), y_6, l_5)))))))

set_option maxHeartbeats 4000000 in
set_option maxRecDepth 100000 in
theorem ctX9_redo {l : Launch} {D : va_G} {cI cL cS cH : ClassId} {a : Nat → Nat}  {v_keptMany : Int32} {v_done : Int32} {v_rowsOf : Int32} {v_columnsOf : Int32} {v_folded : Int32} {v_wronged : Int32} {v_tapeMany : Int32} {v_textMany : Int32} {v_base : Int32} {v_at : Int32} {v_ends : Int32} {v_fault : Int32} {v_opened : Int32} {v_bentMany : Int32} {v_bentWrong : Int32} {v_moreWorn : Int32} {v_planned : Int32} {v_allWrong : Int32} {v_allWorn : Int32} {v_z : Int32} {v_wishedField : Int32} {v_isFound : Bool} {v_bestWrong : Int32} {v_bestWorn : Int32} {v_bestMany : Int32} {v_soughtBy : Int32} {v_sought : Int32} {v_soughtAt : Int32} {v_foundMany : Int32} {v_foundOrder : Int32} {v_isKept : Bool} {v_imageRows : Int32} {v_imageColumns : Int32} {v_imageFolded : Int32} {v_imageWronged : Int32} {v_bodies : Int32} {v_ran : Int32} {v_ownKind : Int32} {v_ownNumber : Int32} {v_limit : List Int32} {v_changeWas : List Int32} {v_changeIs : List Int32} {v_shapeRows : List Int32} {v_shapeColumns : List Int32} {v_row : List Int32} {v_column : List Int32} {v_below : List Int32} {v_face : List Int32} {v_worn : List Int32} {v_lastBend : List Int32} {v_tape : List Int32} {v_text : List Int32} {v_names : List Int32} {v_bends : List Int32} {v_high : List Int32} {v_to : List Int32} {v_pileSize : List Int32} {v_planLine : List Int32} {v_planWay : List Int32} {v_way1 : List Int32} {v_bestWay : List Int32} {v_order1 : List Int32} {v_placeIn : List Int32} {v_bodyKind : List Int32} {v_trace : List Int32} {v_shelf : List Int32} {v_many : List Int32} {v_items : List Int64} {v_carried : List Int64} {r : Int32} {w_done : Int32} {w_limit : List Int32} {N d : Nat} (hd : 1 ≤ d) (hf : fX9_redo N v_keptMany v_done v_limit v_changeIs = some (r, w_done, w_limit)) : mm_Ct l yX9_redo cX9_redo 1 (some .int) d D (mm_T cI cL cS cH) [.ref (a 0)] (wd_X9 cI cL cS cH a v_keptMany v_done v_rowsOf v_columnsOf v_folded v_wronged v_tapeMany v_textMany v_base v_at v_ends v_fault v_opened v_bentMany v_bentWrong v_moreWorn v_planned v_allWrong v_allWorn v_z v_wishedField v_isFound v_bestWrong v_bestWorn v_bestMany v_soughtBy v_sought v_soughtAt v_foundMany v_foundOrder v_isKept v_imageRows v_imageColumns v_imageFolded v_imageWronged v_bodies v_ran v_ownKind v_ownNumber v_limit v_changeWas v_changeIs v_shapeRows v_shapeColumns v_row v_column v_below v_face v_worn v_lastBend v_tape v_text v_names v_bends v_high v_to v_pileSize v_planLine v_planWay v_way1 v_bestWay v_order1 v_placeIn v_bodyKind v_trace v_shelf v_many v_items v_carried) (wd_X9 cI cL cS cH a v_keptMany w_done v_rowsOf v_columnsOf v_folded v_wronged v_tapeMany v_textMany v_base v_at v_ends v_fault v_opened v_bentMany v_bentWrong v_moreWorn v_planned v_allWrong v_allWorn v_z v_wishedField v_isFound v_bestWrong v_bestWorn v_bestMany v_soughtBy v_sought v_soughtAt v_foundMany v_foundOrder v_isKept v_imageRows v_imageColumns v_imageFolded v_imageWronged v_bodies v_ran v_ownKind v_ownNumber w_limit v_changeWas v_changeIs v_shapeRows v_shapeColumns v_row v_column v_below v_face v_worn v_lastBend v_tape v_text v_names v_bends v_high v_to v_pileSize v_planLine v_planWay v_way1 v_bestWay v_order1 v_placeIn v_bodyKind v_trace v_shelf v_many v_items v_carried) (some (.int r)) := by
  refine mm_of (by decide) (Nat.le_of_ble_eq_true rfl) ?_
  intro p e s m args below meth c A H locs ls C0 hP hD hA hS hl
  have C0 : mm_Cx p s m args meth c RX9 cX9_redo 1 (some .int) D (mm_T cI cL cS cH) A := C0
  obtain ⟨hx, hb, hml, hown, hts, hr, hlocks, hK, hSt⟩ := id C0
  have hl : lv_has ls 1 [(0, .ref (a 0))] := hl
  unfold fX9_redo at hf
  refine lv_aload_n hx hb dX9_redo_0 rfl (lv_at hl 0 rfl) ?_
  refine mm_get C0 hP iw_X9 0 rfl rfl 4 (by decide) fl_X9_115 rfl dX9_redo_1 ?_
  refine lv_aload_n hx hb dX9_redo_4 rfl (lv_at hl 0 rfl) ?_
  refine mm_get C0 hP iw_X9 0 rfl rfl 3 (by decide) fl_X9_118 rfl dX9_redo_5 ?_
  refine lv_icmp_ne (tgt := 14) hx hb dX9_redo_8 (by decide) (fun c_1 => ?_) (fun c_1 => ?_)
  · have hf := mm_in hf c_1
    refine lv_aload_n hx hb dX9_redo_14 rfl (lv_at hl 0 rfl) ?_
    refine mm_get C0 hP iw_X9 0 rfl rfl 0 (by decide) fl_X9_7 rfl dX9_redo_15 ?_
    refine lv_iconst (v := 0) hx hb dX9_redo_18 (by decide) ?_
    refine lv_aload_n hx hb dX9_redo_19 rfl (lv_at hl 0 rfl) ?_
    refine mm_get C0 hP iw_X9 0 rfl rfl 2 (by decide) fl_X9_16 rfl dX9_redo_20 ?_
    refine lv_aload_n hx hb dX9_redo_23 rfl (lv_at hl 0 rfl) ?_
    refine mm_get C0 hP iw_X9 0 rfl rfl 4 (by decide) fl_X9_115 rfl dX9_redo_24 ?_
    obtain ⟨h_2, hf⟩ := mm_cks hf
    refine mm_iald C0 hP 3 rfl h_2 dX9_redo_27 ?_
    refine lv_topi (fun y_3 ey_3 => ?_)
    have hf := mm_nms hf ey_3
    obtain ⟨h_4, hf⟩ := mm_cks hf
    refine mm_iast C0 hP hD hS 1 rfl h_4 dX9_redo_28 (w2 := (wd_X9 cI cL cS cH a v_keptMany v_done v_rowsOf v_columnsOf v_folded v_wronged v_tapeMany v_textMany v_base v_at v_ends v_fault v_opened v_bentMany v_bentWrong v_moreWorn v_planned v_allWrong v_allWorn v_z v_wishedField v_isFound v_bestWrong v_bestWorn v_bestMany v_soughtBy v_sought v_soughtAt v_foundMany v_foundOrder v_isKept v_imageRows v_imageColumns v_imageFolded v_imageWronged v_bodies v_ran v_ownKind v_ownNumber (mm_is v_limit (0 : Int32) y_3) v_changeWas v_changeIs v_shapeRows v_shapeColumns v_row v_column v_below v_face v_worn v_lastBend v_tape v_text v_names v_bends v_high v_to v_pileSize v_planLine v_planWay v_way1 v_bestWay v_order1 v_placeIn v_bodyKind v_trace v_shelf v_many v_items v_carried)) rfl (fun H locs hP hD hS => ?_)
    generalize el_5 : (mm_is v_limit (0 : Int32) y_3) = l_5 at hP hD
    have hf := mm_nms hf el_5.symm
    refine lv_aload_n hx hb dX9_redo_29 rfl (lv_at hl 0 rfl) ?_
    refine lv_dup hx hb dX9_redo_30 rfl ?_
    refine mm_get C0 hP iw_X9 0 rfl rfl 4 (by decide) fl_X9_115 rfl dX9_redo_31 ?_
    refine lv_iconst (v := 1) hx hb dX9_redo_34 (by decide) ?_
    refine lv_iadd hx hb dX9_redo_35 ?_
    refine lv_topi (fun y_6 ey_6 => ?_)
    have hf := mm_nms hf ey_6
    refine mm_put C0 hP hD hS iw_X9 tyX9 tyX9_ok nmX9 0 rfl rfl 4 (by decide) fl_X9_115 rfl rfl rfl (Nat.le_of_ble_eq_true rfl) dX9_redo_36 (w2 := (wd_X9 cI cL cS cH a v_keptMany y_6 v_rowsOf v_columnsOf v_folded v_wronged v_tapeMany v_textMany v_base v_at v_ends v_fault v_opened v_bentMany v_bentWrong v_moreWorn v_planned v_allWrong v_allWorn v_z v_wishedField v_isFound v_bestWrong v_bestWorn v_bestMany v_soughtBy v_sought v_soughtAt v_foundMany v_foundOrder v_isKept v_imageRows v_imageColumns v_imageFolded v_imageWronged v_bodies v_ran v_ownKind v_ownNumber l_5 v_changeWas v_changeIs v_shapeRows v_shapeColumns v_row v_column v_below v_face v_worn v_lastBend v_tape v_text v_names v_bends v_high v_to v_pileSize v_planLine v_planWay v_way1 v_bestWay v_order1 v_placeIn v_bodyKind v_trace v_shelf v_many v_items v_carried)) rfl (fun H locs hP hD hS => ?_)
    refine lv_aload_n hx hb dX9_redo_39 rfl (lv_at hl 0 rfl) ?_
    refine mm_get C0 hP iw_X9 0 rfl rfl 3 (by decide) fl_X9_118 rfl dX9_redo_40 ?_
    refine lv_aload_n hx hb dX9_redo_43 rfl (lv_at hl 0 rfl) ?_
    refine mm_get C0 hP iw_X9 0 rfl rfl 4 (by decide) fl_X9_115 rfl dX9_redo_44 ?_
    refine lv_isub hx hb dX9_redo_47 ?_
    apply mm_sub3 hf
    exact mm_iret C0 hP hD hS dX9_redo_48
  · have hf := mm_ip hf c_1
    refine lv_bipush (v := -5) hx hb dX9_redo_11 (by decide) ?_
    apply mm_sub3 hf
    exact mm_iret C0 hP hD hS dX9_redo_13

theorem nb_dX9_fields_0 : bls_w cX9_fields [(0, [42]), (1, [180, 0, 121]), (4, [42]), (5, [180, 0, 124]), (8, [104]), (9, [172])] := bls_of (by decide +kernel)
theorem dX9_fields_0 : decode cX9_fields 0 = .ok (.aload_n 0, 1) := op_42 nb_dX9_fields_0.1
set_option maxRecDepth 100000 in
theorem dX9_fields_1 : decode cX9_fields 1 = .ok (.getfield 121, 3) := (op_180 nb_dX9_fields_0.2.1).trans rfl
theorem dX9_fields_4 : decode cX9_fields 4 = .ok (.aload_n 0, 1) := op_42 nb_dX9_fields_0.2.2.1
set_option maxRecDepth 100000 in
theorem dX9_fields_5 : decode cX9_fields 5 = .ok (.getfield 124, 3) := (op_180 nb_dX9_fields_0.2.2.2.1).trans rfl
theorem dX9_fields_8 : decode cX9_fields 8 = .ok (.imul, 1) := op_104 nb_dX9_fields_0.2.2.2.2.1
theorem dX9_fields_9 : decode cX9_fields 9 = .ok (.ireturn, 1) := op_172 nb_dX9_fields_0.2.2.2.2.2.1
def fX9_fields (N : Nat) (v_rowsOf : Int32) (v_columnsOf : Int32) : Option (Int32) :=
    some ((v_rowsOf * v_columnsOf))

set_option maxHeartbeats 4000000 in
set_option maxRecDepth 100000 in
theorem ctX9_fields {l : Launch} {D : va_G} {cI cL cS cH : ClassId} {a : Nat → Nat}  {v_keptMany : Int32} {v_done : Int32} {v_rowsOf : Int32} {v_columnsOf : Int32} {v_folded : Int32} {v_wronged : Int32} {v_tapeMany : Int32} {v_textMany : Int32} {v_base : Int32} {v_at : Int32} {v_ends : Int32} {v_fault : Int32} {v_opened : Int32} {v_bentMany : Int32} {v_bentWrong : Int32} {v_moreWorn : Int32} {v_planned : Int32} {v_allWrong : Int32} {v_allWorn : Int32} {v_z : Int32} {v_wishedField : Int32} {v_isFound : Bool} {v_bestWrong : Int32} {v_bestWorn : Int32} {v_bestMany : Int32} {v_soughtBy : Int32} {v_sought : Int32} {v_soughtAt : Int32} {v_foundMany : Int32} {v_foundOrder : Int32} {v_isKept : Bool} {v_imageRows : Int32} {v_imageColumns : Int32} {v_imageFolded : Int32} {v_imageWronged : Int32} {v_bodies : Int32} {v_ran : Int32} {v_ownKind : Int32} {v_ownNumber : Int32} {v_limit : List Int32} {v_changeWas : List Int32} {v_changeIs : List Int32} {v_shapeRows : List Int32} {v_shapeColumns : List Int32} {v_row : List Int32} {v_column : List Int32} {v_below : List Int32} {v_face : List Int32} {v_worn : List Int32} {v_lastBend : List Int32} {v_tape : List Int32} {v_text : List Int32} {v_names : List Int32} {v_bends : List Int32} {v_high : List Int32} {v_to : List Int32} {v_pileSize : List Int32} {v_planLine : List Int32} {v_planWay : List Int32} {v_way1 : List Int32} {v_bestWay : List Int32} {v_order1 : List Int32} {v_placeIn : List Int32} {v_bodyKind : List Int32} {v_trace : List Int32} {v_shelf : List Int32} {v_many : List Int32} {v_items : List Int64} {v_carried : List Int64} {r : Int32} {N d : Nat} (hd : 1 ≤ d) (hf : fX9_fields N v_rowsOf v_columnsOf = some r) : mm_Ct l yX9_fields cX9_fields 1 (some .int) d D (mm_T cI cL cS cH) [.ref (a 0)] (wd_X9 cI cL cS cH a v_keptMany v_done v_rowsOf v_columnsOf v_folded v_wronged v_tapeMany v_textMany v_base v_at v_ends v_fault v_opened v_bentMany v_bentWrong v_moreWorn v_planned v_allWrong v_allWorn v_z v_wishedField v_isFound v_bestWrong v_bestWorn v_bestMany v_soughtBy v_sought v_soughtAt v_foundMany v_foundOrder v_isKept v_imageRows v_imageColumns v_imageFolded v_imageWronged v_bodies v_ran v_ownKind v_ownNumber v_limit v_changeWas v_changeIs v_shapeRows v_shapeColumns v_row v_column v_below v_face v_worn v_lastBend v_tape v_text v_names v_bends v_high v_to v_pileSize v_planLine v_planWay v_way1 v_bestWay v_order1 v_placeIn v_bodyKind v_trace v_shelf v_many v_items v_carried) (wd_X9 cI cL cS cH a v_keptMany v_done v_rowsOf v_columnsOf v_folded v_wronged v_tapeMany v_textMany v_base v_at v_ends v_fault v_opened v_bentMany v_bentWrong v_moreWorn v_planned v_allWrong v_allWorn v_z v_wishedField v_isFound v_bestWrong v_bestWorn v_bestMany v_soughtBy v_sought v_soughtAt v_foundMany v_foundOrder v_isKept v_imageRows v_imageColumns v_imageFolded v_imageWronged v_bodies v_ran v_ownKind v_ownNumber v_limit v_changeWas v_changeIs v_shapeRows v_shapeColumns v_row v_column v_below v_face v_worn v_lastBend v_tape v_text v_names v_bends v_high v_to v_pileSize v_planLine v_planWay v_way1 v_bestWay v_order1 v_placeIn v_bodyKind v_trace v_shelf v_many v_items v_carried) (some (.int r)) := by
  refine mm_of (by decide) (Nat.le_of_ble_eq_true rfl) ?_
  intro p e s m args below meth c A H locs ls C0 hP hD hA hS hl
  have C0 : mm_Cx p s m args meth c RX9 cX9_fields 1 (some .int) D (mm_T cI cL cS cH) A := C0
  obtain ⟨hx, hb, hml, hown, hts, hr, hlocks, hK, hSt⟩ := id C0
  have hl : lv_has ls 1 [(0, .ref (a 0))] := hl
  unfold fX9_fields at hf
  refine lv_aload_n hx hb dX9_fields_0 rfl (lv_at hl 0 rfl) ?_
  refine mm_get C0 hP iw_X9 0 rfl rfl 5 (by decide) fl_X9_121 rfl dX9_fields_1 ?_
  refine lv_aload_n hx hb dX9_fields_4 rfl (lv_at hl 0 rfl) ?_
  refine mm_get C0 hP iw_X9 0 rfl rfl 6 (by decide) fl_X9_124 rfl dX9_fields_5 ?_
  refine lv_imul hx hb dX9_fields_8 ?_
  obtain rfl := mm_inj1 hf
  exact mm_iret C0 hP hD hS dX9_fields_9

theorem nb_dX9_liesFlat_0 : bls_w cX9_liesFlat [(0, [42]), (1, [180, 0, 19]), (4, [27]), (5, [42]), (6, [180, 0, 121]), (9, [79]), (10, [42]), (11, [180, 0, 22]), (14, [27]), (15, [42]), (16, [180, 0, 124]), (19, [79])] := bls_of (by decide +kernel)
theorem dX9_liesFlat_0 : decode cX9_liesFlat 0 = .ok (.aload_n 0, 1) := op_42 nb_dX9_liesFlat_0.1
set_option maxRecDepth 100000 in
theorem dX9_liesFlat_1 : decode cX9_liesFlat 1 = .ok (.getfield 19, 3) := (op_180 nb_dX9_liesFlat_0.2.1).trans rfl
theorem dX9_liesFlat_4 : decode cX9_liesFlat 4 = .ok (.iload_n 1, 1) := op_27 nb_dX9_liesFlat_0.2.2.1
theorem dX9_liesFlat_5 : decode cX9_liesFlat 5 = .ok (.aload_n 0, 1) := op_42 nb_dX9_liesFlat_0.2.2.2.1
set_option maxRecDepth 100000 in
theorem dX9_liesFlat_6 : decode cX9_liesFlat 6 = .ok (.getfield 121, 3) := (op_180 nb_dX9_liesFlat_0.2.2.2.2.1).trans rfl
theorem dX9_liesFlat_9 : decode cX9_liesFlat 9 = .ok (.iastore, 1) := op_79 nb_dX9_liesFlat_0.2.2.2.2.2.1
theorem dX9_liesFlat_10 : decode cX9_liesFlat 10 = .ok (.aload_n 0, 1) := op_42 nb_dX9_liesFlat_0.2.2.2.2.2.2.1
set_option maxRecDepth 100000 in
theorem dX9_liesFlat_11 : decode cX9_liesFlat 11 = .ok (.getfield 22, 3) := (op_180 nb_dX9_liesFlat_0.2.2.2.2.2.2.2.1).trans rfl
theorem dX9_liesFlat_14 : decode cX9_liesFlat 14 = .ok (.iload_n 1, 1) := op_27 nb_dX9_liesFlat_0.2.2.2.2.2.2.2.2.1
theorem dX9_liesFlat_15 : decode cX9_liesFlat 15 = .ok (.aload_n 0, 1) := op_42 nb_dX9_liesFlat_0.2.2.2.2.2.2.2.2.2.1
set_option maxRecDepth 100000 in
theorem dX9_liesFlat_16 : decode cX9_liesFlat 16 = .ok (.getfield 124, 3) := (op_180 nb_dX9_liesFlat_0.2.2.2.2.2.2.2.2.2.2.1).trans rfl
theorem dX9_liesFlat_19 : decode cX9_liesFlat 19 = .ok (.iastore, 1) := op_79 nb_dX9_liesFlat_0.2.2.2.2.2.2.2.2.2.2.2.1
theorem nb_dX9_liesFlat_20 : bls_w cX9_liesFlat [(20, [3]), (21, [61]), (22, [28]), (23, [42]), (24, [182, 0, 127]), (27, [162, 0, 67]), (30, [42]), (31, [180, 0, 25]), (34, [16, 32]), (36, [27]), (37, [104]), (38, [28])] := bls_of (by decide +kernel)
theorem dX9_liesFlat_20 : decode cX9_liesFlat 20 = .ok (.iconst 0, 1) := op_3 nb_dX9_liesFlat_20.1
theorem dX9_liesFlat_21 : decode cX9_liesFlat 21 = .ok (.istore_n 2, 1) := op_61 nb_dX9_liesFlat_20.2.1
theorem dX9_liesFlat_22 : decode cX9_liesFlat 22 = .ok (.iload_n 2, 1) := op_28 nb_dX9_liesFlat_20.2.2.1
theorem dX9_liesFlat_23 : decode cX9_liesFlat 23 = .ok (.aload_n 0, 1) := op_42 nb_dX9_liesFlat_20.2.2.2.1
set_option maxRecDepth 100000 in
theorem dX9_liesFlat_24 : decode cX9_liesFlat 24 = .ok (.invokevirtual 127, 3) := (op_182 nb_dX9_liesFlat_20.2.2.2.2.1).trans rfl
set_option maxRecDepth 100000 in
theorem dX9_liesFlat_27 : decode cX9_liesFlat 27 = .ok (.if_icmp .ge 67, 3) := (op_162 nb_dX9_liesFlat_20.2.2.2.2.2.1).trans rfl
theorem dX9_liesFlat_30 : decode cX9_liesFlat 30 = .ok (.aload_n 0, 1) := op_42 nb_dX9_liesFlat_20.2.2.2.2.2.2.1
set_option maxRecDepth 100000 in
theorem dX9_liesFlat_31 : decode cX9_liesFlat 31 = .ok (.getfield 25, 3) := (op_180 nb_dX9_liesFlat_20.2.2.2.2.2.2.2.1).trans rfl
set_option maxRecDepth 100000 in
theorem dX9_liesFlat_34 : decode cX9_liesFlat 34 = .ok (.bipush 32, 2) := (op_16 nb_dX9_liesFlat_20.2.2.2.2.2.2.2.2.1).trans rfl
theorem dX9_liesFlat_36 : decode cX9_liesFlat 36 = .ok (.iload_n 1, 1) := op_27 nb_dX9_liesFlat_20.2.2.2.2.2.2.2.2.2.1
theorem dX9_liesFlat_37 : decode cX9_liesFlat 37 = .ok (.imul, 1) := op_104 nb_dX9_liesFlat_20.2.2.2.2.2.2.2.2.2.2.1
theorem dX9_liesFlat_38 : decode cX9_liesFlat 38 = .ok (.iload_n 2, 1) := op_28 nb_dX9_liesFlat_20.2.2.2.2.2.2.2.2.2.2.2.1
theorem nb_dX9_liesFlat_39 : bls_w cX9_liesFlat [(39, [96]), (40, [28]), (41, [42]), (42, [180, 0, 124]), (45, [108]), (46, [79]), (47, [42]), (48, [180, 0, 28]), (51, [16, 32]), (53, [27]), (54, [104]), (55, [28])] := bls_of (by decide +kernel)
theorem dX9_liesFlat_39 : decode cX9_liesFlat 39 = .ok (.iadd, 1) := op_96 nb_dX9_liesFlat_39.1
theorem dX9_liesFlat_40 : decode cX9_liesFlat 40 = .ok (.iload_n 2, 1) := op_28 nb_dX9_liesFlat_39.2.1
theorem dX9_liesFlat_41 : decode cX9_liesFlat 41 = .ok (.aload_n 0, 1) := op_42 nb_dX9_liesFlat_39.2.2.1
set_option maxRecDepth 100000 in
theorem dX9_liesFlat_42 : decode cX9_liesFlat 42 = .ok (.getfield 124, 3) := (op_180 nb_dX9_liesFlat_39.2.2.2.1).trans rfl
theorem dX9_liesFlat_45 : decode cX9_liesFlat 45 = .ok (.idiv, 1) := op_108 nb_dX9_liesFlat_39.2.2.2.2.1
theorem dX9_liesFlat_46 : decode cX9_liesFlat 46 = .ok (.iastore, 1) := op_79 nb_dX9_liesFlat_39.2.2.2.2.2.1
theorem dX9_liesFlat_47 : decode cX9_liesFlat 47 = .ok (.aload_n 0, 1) := op_42 nb_dX9_liesFlat_39.2.2.2.2.2.2.1
set_option maxRecDepth 100000 in
theorem dX9_liesFlat_48 : decode cX9_liesFlat 48 = .ok (.getfield 28, 3) := (op_180 nb_dX9_liesFlat_39.2.2.2.2.2.2.2.1).trans rfl
set_option maxRecDepth 100000 in
theorem dX9_liesFlat_51 : decode cX9_liesFlat 51 = .ok (.bipush 32, 2) := (op_16 nb_dX9_liesFlat_39.2.2.2.2.2.2.2.2.1).trans rfl
theorem dX9_liesFlat_53 : decode cX9_liesFlat 53 = .ok (.iload_n 1, 1) := op_27 nb_dX9_liesFlat_39.2.2.2.2.2.2.2.2.2.1
theorem dX9_liesFlat_54 : decode cX9_liesFlat 54 = .ok (.imul, 1) := op_104 nb_dX9_liesFlat_39.2.2.2.2.2.2.2.2.2.2.1
theorem dX9_liesFlat_55 : decode cX9_liesFlat 55 = .ok (.iload_n 2, 1) := op_28 nb_dX9_liesFlat_39.2.2.2.2.2.2.2.2.2.2.2.1
theorem nb_dX9_liesFlat_56 : bls_w cX9_liesFlat [(56, [96]), (57, [28]), (58, [42]), (59, [180, 0, 124]), (62, [112]), (63, [79]), (64, [42]), (65, [180, 0, 31]), (68, [16, 32]), (70, [27]), (71, [104]), (72, [28])] := bls_of (by decide +kernel)
theorem dX9_liesFlat_56 : decode cX9_liesFlat 56 = .ok (.iadd, 1) := op_96 nb_dX9_liesFlat_56.1
theorem dX9_liesFlat_57 : decode cX9_liesFlat 57 = .ok (.iload_n 2, 1) := op_28 nb_dX9_liesFlat_56.2.1
theorem dX9_liesFlat_58 : decode cX9_liesFlat 58 = .ok (.aload_n 0, 1) := op_42 nb_dX9_liesFlat_56.2.2.1
set_option maxRecDepth 100000 in
theorem dX9_liesFlat_59 : decode cX9_liesFlat 59 = .ok (.getfield 124, 3) := (op_180 nb_dX9_liesFlat_56.2.2.2.1).trans rfl
theorem dX9_liesFlat_62 : decode cX9_liesFlat 62 = .ok (.irem, 1) := op_112 nb_dX9_liesFlat_56.2.2.2.2.1
theorem dX9_liesFlat_63 : decode cX9_liesFlat 63 = .ok (.iastore, 1) := op_79 nb_dX9_liesFlat_56.2.2.2.2.2.1
theorem dX9_liesFlat_64 : decode cX9_liesFlat 64 = .ok (.aload_n 0, 1) := op_42 nb_dX9_liesFlat_56.2.2.2.2.2.2.1
set_option maxRecDepth 100000 in
theorem dX9_liesFlat_65 : decode cX9_liesFlat 65 = .ok (.getfield 31, 3) := (op_180 nb_dX9_liesFlat_56.2.2.2.2.2.2.2.1).trans rfl
set_option maxRecDepth 100000 in
theorem dX9_liesFlat_68 : decode cX9_liesFlat 68 = .ok (.bipush 32, 2) := (op_16 nb_dX9_liesFlat_56.2.2.2.2.2.2.2.2.1).trans rfl
theorem dX9_liesFlat_70 : decode cX9_liesFlat 70 = .ok (.iload_n 1, 1) := op_27 nb_dX9_liesFlat_56.2.2.2.2.2.2.2.2.2.1
theorem dX9_liesFlat_71 : decode cX9_liesFlat 71 = .ok (.imul, 1) := op_104 nb_dX9_liesFlat_56.2.2.2.2.2.2.2.2.2.2.1
theorem dX9_liesFlat_72 : decode cX9_liesFlat 72 = .ok (.iload_n 2, 1) := op_28 nb_dX9_liesFlat_56.2.2.2.2.2.2.2.2.2.2.2.1
theorem nb_dX9_liesFlat_73 : bls_w cX9_liesFlat [(73, [96]), (74, [3]), (75, [79]), (76, [42]), (77, [180, 0, 34]), (80, [16, 32]), (82, [27]), (83, [104]), (84, [28]), (85, [96]), (86, [3]), (87, [79])] := bls_of (by decide +kernel)
theorem dX9_liesFlat_73 : decode cX9_liesFlat 73 = .ok (.iadd, 1) := op_96 nb_dX9_liesFlat_73.1
theorem dX9_liesFlat_74 : decode cX9_liesFlat 74 = .ok (.iconst 0, 1) := op_3 nb_dX9_liesFlat_73.2.1
theorem dX9_liesFlat_75 : decode cX9_liesFlat 75 = .ok (.iastore, 1) := op_79 nb_dX9_liesFlat_73.2.2.1
theorem dX9_liesFlat_76 : decode cX9_liesFlat 76 = .ok (.aload_n 0, 1) := op_42 nb_dX9_liesFlat_73.2.2.2.1
set_option maxRecDepth 100000 in
theorem dX9_liesFlat_77 : decode cX9_liesFlat 77 = .ok (.getfield 34, 3) := (op_180 nb_dX9_liesFlat_73.2.2.2.2.1).trans rfl
set_option maxRecDepth 100000 in
theorem dX9_liesFlat_80 : decode cX9_liesFlat 80 = .ok (.bipush 32, 2) := (op_16 nb_dX9_liesFlat_73.2.2.2.2.2.1).trans rfl
theorem dX9_liesFlat_82 : decode cX9_liesFlat 82 = .ok (.iload_n 1, 1) := op_27 nb_dX9_liesFlat_73.2.2.2.2.2.2.1
theorem dX9_liesFlat_83 : decode cX9_liesFlat 83 = .ok (.imul, 1) := op_104 nb_dX9_liesFlat_73.2.2.2.2.2.2.2.1
theorem dX9_liesFlat_84 : decode cX9_liesFlat 84 = .ok (.iload_n 2, 1) := op_28 nb_dX9_liesFlat_73.2.2.2.2.2.2.2.2.1
theorem dX9_liesFlat_85 : decode cX9_liesFlat 85 = .ok (.iadd, 1) := op_96 nb_dX9_liesFlat_73.2.2.2.2.2.2.2.2.2.1
theorem dX9_liesFlat_86 : decode cX9_liesFlat 86 = .ok (.iconst 0, 1) := op_3 nb_dX9_liesFlat_73.2.2.2.2.2.2.2.2.2.2.1
theorem dX9_liesFlat_87 : decode cX9_liesFlat 87 = .ok (.iastore, 1) := op_79 nb_dX9_liesFlat_73.2.2.2.2.2.2.2.2.2.2.2.1
theorem nb_dX9_liesFlat_88 : bls_w cX9_liesFlat [(88, [132, 2, 1]), (91, [167, 255, 187]), (94, [177])] := bls_of (by decide +kernel)
set_option maxRecDepth 100000 in
theorem dX9_liesFlat_88 : decode cX9_liesFlat 88 = .ok (.iinc 2 1, 3) := (op_132 nb_dX9_liesFlat_88.1).trans rfl
set_option maxRecDepth 100000 in
theorem dX9_liesFlat_91 : decode cX9_liesFlat 91 = .ok (.goto (-69), 3) := (op_167 nb_dX9_liesFlat_88.2.1).trans rfl
theorem dX9_liesFlat_94 : decode cX9_liesFlat 94 = .ok (.return_, 1) := op_177 nb_dX9_liesFlat_88.2.2.1
def fX9_liesFlat_22 (N : Nat)  : Nat → Int32 → Int32 → Int32 → Int32 → List Int32 → List Int32 → List Int32 → List Int32 → List Int32 → List Int32 → Option (List Int32 × List Int32 × List Int32 × List Int32 × List Int32 × List Int32)
  | 0 => fun _ _ _ _ _ _ _ _ _ _ => none
  | n + 1 => fun x1 x2 v_rowsOf v_columnsOf v_shapeRows v_shapeColumns v_row v_column v_below v_face =>
    mm_bd1 (fX9_fields N v_rowsOf v_columnsOf) (fun (r_5 : Int32) =>
    if r_5 ≤ x2 then
    (some (v_shapeRows, v_shapeColumns, v_row, v_column, v_below, v_face))
    else (mm_ck (mm_nz v_columnsOf) (mm_nm ((x2 / v_columnsOf)) (fun (y_9 : Int32) =>
    mm_ck (mm_inb (((32 : Int32) * x1) + x2) v_row.length) (mm_nm (mm_is v_row (((32 : Int32) * x1) + x2) y_9) (fun (l_11 : List Int32) =>
    mm_ck (mm_nz v_columnsOf) (mm_nm ((mm_rem x2 v_columnsOf)) (fun (y_13 : Int32) =>
    mm_ck (mm_inb (((32 : Int32) * x1) + x2) v_column.length) (mm_nm (mm_is v_column (((32 : Int32) * x1) + x2) y_13) (fun (l_15 : List Int32) =>
    mm_ck (mm_inb (((32 : Int32) * x1) + x2) v_below.length) (mm_nm (mm_is v_below (((32 : Int32) * x1) + x2) (0 : Int32)) (fun (l_17 : List Int32) =>
    mm_ck (mm_inb (((32 : Int32) * x1) + x2) v_face.length) (mm_nm (mm_is v_face (((32 : Int32) * x1) + x2) (0 : Int32)) (fun (l_19 : List Int32) =>
    mm_nm (x2 + (1 : Int32)) (fun (y_20 : Int32) =>
    fX9_liesFlat_22 N n x1 y_20 v_rowsOf v_columnsOf v_shapeRows v_shapeColumns l_11 l_15 l_17 l_19)))))))))))))))

set_option maxHeartbeats 4000000 in
set_option maxRecDepth 100000 in
theorem tX9_liesFlat_22 {p : Program} {l : Launch} {e : Env} {s : State} {m : MethodId} {args : Array Value} {below : List Frame} {meth : Method} {c : Code} {D : va_G} {cI cL cS cH : ClassId} {A : Nat → Prop} {d : Nat} {a : Nat → Nat} (hd : 2 ≤ d) (C0 : mm_Cx p s m args meth c RX9 cX9_liesFlat 3 none D (mm_T cI cL cS cH) A) (hA : ∀ q, s.heap.size ≤ q → A q) {v_keptMany : Int32} {v_done : Int32} {v_folded : Int32} {v_wronged : Int32} {v_tapeMany : Int32} {v_textMany : Int32} {v_base : Int32} {v_at : Int32} {v_ends : Int32} {v_fault : Int32} {v_opened : Int32} {v_bentMany : Int32} {v_bentWrong : Int32} {v_moreWorn : Int32} {v_planned : Int32} {v_allWrong : Int32} {v_allWorn : Int32} {v_z : Int32} {v_wishedField : Int32} {v_isFound : Bool} {v_bestWrong : Int32} {v_bestWorn : Int32} {v_bestMany : Int32} {v_soughtBy : Int32} {v_sought : Int32} {v_soughtAt : Int32} {v_foundMany : Int32} {v_foundOrder : Int32} {v_isKept : Bool} {v_imageRows : Int32} {v_imageColumns : Int32} {v_imageFolded : Int32} {v_imageWronged : Int32} {v_bodies : Int32} {v_ran : Int32} {v_ownKind : Int32} {v_ownNumber : Int32} {v_limit : List Int32} {v_changeWas : List Int32} {v_changeIs : List Int32} {v_worn : List Int32} {v_lastBend : List Int32} {v_tape : List Int32} {v_text : List Int32} {v_names : List Int32} {v_bends : List Int32} {v_high : List Int32} {v_to : List Int32} {v_pileSize : List Int32} {v_planLine : List Int32} {v_planWay : List Int32} {v_way1 : List Int32} {v_bestWay : List Int32} {v_order1 : List Int32} {v_placeIn : List Int32} {v_bodyKind : List Int32} {v_trace : List Int32} {v_shelf : List Int32} {v_many : List Int32} {v_items : List Int64} {v_carried : List Int64} {w_shapeRows : List Int32} {w_shapeColumns : List Int32} {w_row : List Int32} {w_column : List Int32} {w_below : List Int32} {w_face : List Int32} (N : Nat)  : ∀ (n : Nat), ∀ (x1 : Int32) (x2 : Int32) (v_rowsOf : Int32) (v_columnsOf : Int32) (v_shapeRows : List Int32) (v_shapeColumns : List Int32) (v_row : List Int32) (v_column : List Int32) (v_below : List Int32) (v_face : List Int32) (H : Heap) (locs : List Loc) (ls : Array Slot), fX9_liesFlat_22 N n x1 x2 v_rowsOf v_columnsOf v_shapeRows v_shapeColumns v_row v_column v_below v_face = some (w_shapeRows, w_shapeColumns, w_row, w_column, w_below, w_face) → va_P D mm_cl (wd_X9 cI cL cS cH a v_keptMany v_done v_rowsOf v_columnsOf v_folded v_wronged v_tapeMany v_textMany v_base v_at v_ends v_fault v_opened v_bentMany v_bentWrong v_moreWorn v_planned v_allWrong v_allWorn v_z v_wishedField v_isFound v_bestWrong v_bestWorn v_bestMany v_soughtBy v_sought v_soughtAt v_foundMany v_foundOrder v_isKept v_imageRows v_imageColumns v_imageFolded v_imageWronged v_bodies v_ran v_ownKind v_ownNumber v_limit v_changeWas v_changeIs v_shapeRows v_shapeColumns v_row v_column v_below v_face v_worn v_lastBend v_tape v_text v_names v_bends v_high v_to v_pileSize v_planLine v_planWay v_way1 v_bestWay v_order1 v_placeIn v_bodyKind v_trace v_shelf v_many v_items v_carried) H → va_D A (wd_X9 cI cL cS cH a v_keptMany v_done v_rowsOf v_columnsOf v_folded v_wronged v_tapeMany v_textMany v_base v_at v_ends v_fault v_opened v_bentMany v_bentWrong v_moreWorn v_planned v_allWrong v_allWorn v_z v_wishedField v_isFound v_bestWrong v_bestWorn v_bestMany v_soughtBy v_sought v_soughtAt v_foundMany v_foundOrder v_isKept v_imageRows v_imageColumns v_imageFolded v_imageWronged v_bodies v_ran v_ownKind v_ownNumber v_limit v_changeWas v_changeIs v_shapeRows v_shapeColumns v_row v_column v_below v_face v_worn v_lastBend v_tape v_text v_names v_bends v_high v_to v_pileSize v_planLine v_planWay v_way1 v_bestWay v_order1 v_placeIn v_bodyKind v_trace v_shelf v_many v_items v_carried) → va_S A s.heap H locs → lv_has ls 3 [(0, .ref (a 0)), (1, .int x1), (2, .int x2)] → W p l e (mm_rr d) s m args below meth c H locs 0 0 (mm_Z below D A (wd_X9 cI cL cS cH a v_keptMany v_done v_rowsOf v_columnsOf v_folded v_wronged v_tapeMany v_textMany v_base v_at v_ends v_fault v_opened v_bentMany v_bentWrong v_moreWorn v_planned v_allWrong v_allWorn v_z v_wishedField v_isFound v_bestWrong v_bestWorn v_bestMany v_soughtBy v_sought v_soughtAt v_foundMany v_foundOrder v_isKept v_imageRows v_imageColumns v_imageFolded v_imageWronged v_bodies v_ran v_ownKind v_ownNumber v_limit v_changeWas v_changeIs w_shapeRows w_shapeColumns w_row w_column w_below w_face v_worn v_lastBend v_tape v_text v_names v_bends v_high v_to v_pileSize v_planLine v_planWay v_way1 v_bestWay v_order1 v_placeIn v_bodyKind v_trace v_shelf v_many v_items v_carried) none args s) (F0 m 22 ls []) := by
  obtain ⟨hx, hb, hml, hown, hts, hr, hlocks, hK, hSt⟩ := id C0
  intro n
  induction n with
  | zero =>
    intro x1 x2 v_rowsOf v_columnsOf v_shapeRows v_shapeColumns v_row v_column v_below v_face H locs ls hf
    cases (show none = some _ from hf)
  | succ n ih =>
    intro x1 x2 v_rowsOf v_columnsOf v_shapeRows v_shapeColumns v_row v_column v_below v_face H locs ls hf hP hD hS hl
    unfold fX9_liesFlat_22 at hf
    refine lv_iload_n hx hb dX9_liesFlat_22 rfl (lv_at hl 2 rfl) ?_
    refine lv_aload_n hx hb dX9_liesFlat_23 rfl (lv_at hl 0 rfl) ?_
    obtain ⟨r_5, hc_6, hf⟩ := mm_bd1s hf
    refine mm_callVF (q0 := 0) (ci := 9) (rest := [.int x2]) C0 lk_X9_127 (ctX9_fields (a := a) (d := d - 1) (by omega) hc_6) (by omega) rfl hl.1 rfl (mm_cat rfl) dX9_liesFlat_24 hP hD hA hS rfl rfl (fun H locs hP hD hS => ?_)
    refine W.eq (g2 := F0 m 27 ls [.int r_5, .int x2]) rfl ?_
    refine lv_icmp_ge (tgt := 94) hx hb dX9_liesFlat_27 (by decide) (fun c_7 => ?_) (fun c_7 => ?_)
    · have hf := mm_ip hf c_7
      apply mm_sub6 hf
      exact mm_vret C0 hP hD hS dX9_liesFlat_94
    · have hf := mm_in hf c_7
      refine lv_aload_n hx hb dX9_liesFlat_30 rfl (lv_at hl 0 rfl) ?_
      refine mm_get C0 hP iw_X9 0 rfl rfl 9 (by decide) fl_X9_25 rfl dX9_liesFlat_31 ?_
      refine lv_bipush (v := 32) hx hb dX9_liesFlat_34 (by decide) ?_
      refine lv_iload_n hx hb dX9_liesFlat_36 rfl (lv_at hl 1 rfl) ?_
      refine lv_imul hx hb dX9_liesFlat_37 ?_
      refine lv_iload_n hx hb dX9_liesFlat_38 rfl (lv_at hl 2 rfl) ?_
      refine lv_iadd hx hb dX9_liesFlat_39 ?_
      refine lv_iload_n hx hb dX9_liesFlat_40 rfl (lv_at hl 2 rfl) ?_
      refine lv_aload_n hx hb dX9_liesFlat_41 rfl (lv_at hl 0 rfl) ?_
      refine mm_get C0 hP iw_X9 0 rfl rfl 6 (by decide) fl_X9_124 rfl dX9_liesFlat_42 ?_
      obtain ⟨h_8, hf⟩ := mm_cks hf
      refine lv_idiv hx hb dX9_liesFlat_45 (mm_nzs h_8) ?_
      refine lv_topi (fun y_9 ey_9 => ?_)
      have hf := mm_nms hf ey_9
      obtain ⟨h_10, hf⟩ := mm_cks hf
      refine mm_iast C0 hP hD hS 6 rfl h_10 dX9_liesFlat_46 (w2 := (wd_X9 cI cL cS cH a v_keptMany v_done v_rowsOf v_columnsOf v_folded v_wronged v_tapeMany v_textMany v_base v_at v_ends v_fault v_opened v_bentMany v_bentWrong v_moreWorn v_planned v_allWrong v_allWorn v_z v_wishedField v_isFound v_bestWrong v_bestWorn v_bestMany v_soughtBy v_sought v_soughtAt v_foundMany v_foundOrder v_isKept v_imageRows v_imageColumns v_imageFolded v_imageWronged v_bodies v_ran v_ownKind v_ownNumber v_limit v_changeWas v_changeIs v_shapeRows v_shapeColumns (mm_is v_row (((32 : Int32) * x1) + x2) y_9) v_column v_below v_face v_worn v_lastBend v_tape v_text v_names v_bends v_high v_to v_pileSize v_planLine v_planWay v_way1 v_bestWay v_order1 v_placeIn v_bodyKind v_trace v_shelf v_many v_items v_carried)) rfl (fun H locs hP hD hS => ?_)
      generalize el_11 : (mm_is v_row (((32 : Int32) * x1) + x2) y_9) = l_11 at hP hD
      have hf := mm_nms hf el_11.symm
      refine lv_aload_n hx hb dX9_liesFlat_47 rfl (lv_at hl 0 rfl) ?_
      refine mm_get C0 hP iw_X9 0 rfl rfl 10 (by decide) fl_X9_28 rfl dX9_liesFlat_48 ?_
      refine lv_bipush (v := 32) hx hb dX9_liesFlat_51 (by decide) ?_
      refine lv_iload_n hx hb dX9_liesFlat_53 rfl (lv_at hl 1 rfl) ?_
      refine lv_imul hx hb dX9_liesFlat_54 ?_
      refine lv_iload_n hx hb dX9_liesFlat_55 rfl (lv_at hl 2 rfl) ?_
      refine lv_iadd hx hb dX9_liesFlat_56 ?_
      refine lv_iload_n hx hb dX9_liesFlat_57 rfl (lv_at hl 2 rfl) ?_
      refine lv_aload_n hx hb dX9_liesFlat_58 rfl (lv_at hl 0 rfl) ?_
      refine mm_get C0 hP iw_X9 0 rfl rfl 6 (by decide) fl_X9_124 rfl dX9_liesFlat_59 ?_
      obtain ⟨h_12, hf⟩ := mm_cks hf
      refine lv_irem hx hb dX9_liesFlat_62 (mm_nzs h_12) ?_
      refine lv_topi (fun y_13 ey_13 => ?_)
      have hf := mm_nms hf ey_13
      obtain ⟨h_14, hf⟩ := mm_cks hf
      refine mm_iast C0 hP hD hS 7 rfl h_14 dX9_liesFlat_63 (w2 := (wd_X9 cI cL cS cH a v_keptMany v_done v_rowsOf v_columnsOf v_folded v_wronged v_tapeMany v_textMany v_base v_at v_ends v_fault v_opened v_bentMany v_bentWrong v_moreWorn v_planned v_allWrong v_allWorn v_z v_wishedField v_isFound v_bestWrong v_bestWorn v_bestMany v_soughtBy v_sought v_soughtAt v_foundMany v_foundOrder v_isKept v_imageRows v_imageColumns v_imageFolded v_imageWronged v_bodies v_ran v_ownKind v_ownNumber v_limit v_changeWas v_changeIs v_shapeRows v_shapeColumns l_11 (mm_is v_column (((32 : Int32) * x1) + x2) y_13) v_below v_face v_worn v_lastBend v_tape v_text v_names v_bends v_high v_to v_pileSize v_planLine v_planWay v_way1 v_bestWay v_order1 v_placeIn v_bodyKind v_trace v_shelf v_many v_items v_carried)) rfl (fun H locs hP hD hS => ?_)
      generalize el_15 : (mm_is v_column (((32 : Int32) * x1) + x2) y_13) = l_15 at hP hD
      have hf := mm_nms hf el_15.symm
      refine lv_aload_n hx hb dX9_liesFlat_64 rfl (lv_at hl 0 rfl) ?_
      refine mm_get C0 hP iw_X9 0 rfl rfl 11 (by decide) fl_X9_31 rfl dX9_liesFlat_65 ?_
      refine lv_bipush (v := 32) hx hb dX9_liesFlat_68 (by decide) ?_
      refine lv_iload_n hx hb dX9_liesFlat_70 rfl (lv_at hl 1 rfl) ?_
      refine lv_imul hx hb dX9_liesFlat_71 ?_
      refine lv_iload_n hx hb dX9_liesFlat_72 rfl (lv_at hl 2 rfl) ?_
      refine lv_iadd hx hb dX9_liesFlat_73 ?_
      refine lv_iconst (v := 0) hx hb dX9_liesFlat_74 (by decide) ?_
      obtain ⟨h_16, hf⟩ := mm_cks hf
      refine mm_iast C0 hP hD hS 8 rfl h_16 dX9_liesFlat_75 (w2 := (wd_X9 cI cL cS cH a v_keptMany v_done v_rowsOf v_columnsOf v_folded v_wronged v_tapeMany v_textMany v_base v_at v_ends v_fault v_opened v_bentMany v_bentWrong v_moreWorn v_planned v_allWrong v_allWorn v_z v_wishedField v_isFound v_bestWrong v_bestWorn v_bestMany v_soughtBy v_sought v_soughtAt v_foundMany v_foundOrder v_isKept v_imageRows v_imageColumns v_imageFolded v_imageWronged v_bodies v_ran v_ownKind v_ownNumber v_limit v_changeWas v_changeIs v_shapeRows v_shapeColumns l_11 l_15 (mm_is v_below (((32 : Int32) * x1) + x2) (0 : Int32)) v_face v_worn v_lastBend v_tape v_text v_names v_bends v_high v_to v_pileSize v_planLine v_planWay v_way1 v_bestWay v_order1 v_placeIn v_bodyKind v_trace v_shelf v_many v_items v_carried)) rfl (fun H locs hP hD hS => ?_)
      generalize el_17 : (mm_is v_below (((32 : Int32) * x1) + x2) (0 : Int32)) = l_17 at hP hD
      have hf := mm_nms hf el_17.symm
      refine lv_aload_n hx hb dX9_liesFlat_76 rfl (lv_at hl 0 rfl) ?_
      refine mm_get C0 hP iw_X9 0 rfl rfl 12 (by decide) fl_X9_34 rfl dX9_liesFlat_77 ?_
      refine lv_bipush (v := 32) hx hb dX9_liesFlat_80 (by decide) ?_
      refine lv_iload_n hx hb dX9_liesFlat_82 rfl (lv_at hl 1 rfl) ?_
      refine lv_imul hx hb dX9_liesFlat_83 ?_
      refine lv_iload_n hx hb dX9_liesFlat_84 rfl (lv_at hl 2 rfl) ?_
      refine lv_iadd hx hb dX9_liesFlat_85 ?_
      refine lv_iconst (v := 0) hx hb dX9_liesFlat_86 (by decide) ?_
      obtain ⟨h_18, hf⟩ := mm_cks hf
      refine mm_iast C0 hP hD hS 9 rfl h_18 dX9_liesFlat_87 (w2 := (wd_X9 cI cL cS cH a v_keptMany v_done v_rowsOf v_columnsOf v_folded v_wronged v_tapeMany v_textMany v_base v_at v_ends v_fault v_opened v_bentMany v_bentWrong v_moreWorn v_planned v_allWrong v_allWorn v_z v_wishedField v_isFound v_bestWrong v_bestWorn v_bestMany v_soughtBy v_sought v_soughtAt v_foundMany v_foundOrder v_isKept v_imageRows v_imageColumns v_imageFolded v_imageWronged v_bodies v_ran v_ownKind v_ownNumber v_limit v_changeWas v_changeIs v_shapeRows v_shapeColumns l_11 l_15 l_17 (mm_is v_face (((32 : Int32) * x1) + x2) (0 : Int32)) v_worn v_lastBend v_tape v_text v_names v_bends v_high v_to v_pileSize v_planLine v_planWay v_way1 v_bestWay v_order1 v_placeIn v_bodyKind v_trace v_shelf v_many v_items v_carried)) rfl (fun H locs hP hD hS => ?_)
      generalize el_19 : (mm_is v_face (((32 : Int32) * x1) + x2) (0 : Int32)) = l_19 at hP hD
      have hf := mm_nms hf el_19.symm
      obtain ⟨y_20, ey_20⟩ : ∃ z : Int32, z = x2 + (1 : Int32) := ⟨_, rfl⟩
      have hf := mm_nms hf ey_20
      refine lv_iinc (v := y_20) (lv' := [(2, .int y_20), (0, .ref (a 0)), (1, .int x1)]) hx hb dX9_liesFlat_88 hl (k := 2) rfl (by rw [ey_20]; rfl) (by decide) rfl (fun ls hl => ?_)
      refine lv_goto (tgt := 22) hx hb dX9_liesFlat_91 (by decide) ?_
      exact ih _ _ _ _ _ _ _ _ _ _ H locs ls hf hP hD hS (lv_sub hl [1, 2, 0] rfl)

def fX9_liesFlat (N : Nat) (x1 : Int32) (v_rowsOf : Int32) (v_columnsOf : Int32) (v_shapeRows : List Int32) (v_shapeColumns : List Int32) (v_row : List Int32) (v_column : List Int32) (v_below : List Int32) (v_face : List Int32) : Option (List Int32 × List Int32 × List Int32 × List Int32 × List Int32 × List Int32) :=
    mm_ck (mm_inb x1 v_shapeRows.length) (mm_nm (mm_is v_shapeRows x1 v_rowsOf) (fun (l_2 : List Int32) =>
    mm_ck (mm_inb x1 v_shapeColumns.length) (mm_nm (mm_is v_shapeColumns x1 v_columnsOf) (fun (l_4 : List Int32) =>
    fX9_liesFlat_22 N N x1 (0 : Int32) v_rowsOf v_columnsOf l_2 l_4 v_row v_column v_below v_face))))

set_option maxHeartbeats 4000000 in
set_option maxRecDepth 100000 in
theorem ctX9_liesFlat {l : Launch} {D : va_G} {cI cL cS cH : ClassId} {a : Nat → Nat} {x1 : Int32} {v_keptMany : Int32} {v_done : Int32} {v_rowsOf : Int32} {v_columnsOf : Int32} {v_folded : Int32} {v_wronged : Int32} {v_tapeMany : Int32} {v_textMany : Int32} {v_base : Int32} {v_at : Int32} {v_ends : Int32} {v_fault : Int32} {v_opened : Int32} {v_bentMany : Int32} {v_bentWrong : Int32} {v_moreWorn : Int32} {v_planned : Int32} {v_allWrong : Int32} {v_allWorn : Int32} {v_z : Int32} {v_wishedField : Int32} {v_isFound : Bool} {v_bestWrong : Int32} {v_bestWorn : Int32} {v_bestMany : Int32} {v_soughtBy : Int32} {v_sought : Int32} {v_soughtAt : Int32} {v_foundMany : Int32} {v_foundOrder : Int32} {v_isKept : Bool} {v_imageRows : Int32} {v_imageColumns : Int32} {v_imageFolded : Int32} {v_imageWronged : Int32} {v_bodies : Int32} {v_ran : Int32} {v_ownKind : Int32} {v_ownNumber : Int32} {v_limit : List Int32} {v_changeWas : List Int32} {v_changeIs : List Int32} {v_shapeRows : List Int32} {v_shapeColumns : List Int32} {v_row : List Int32} {v_column : List Int32} {v_below : List Int32} {v_face : List Int32} {v_worn : List Int32} {v_lastBend : List Int32} {v_tape : List Int32} {v_text : List Int32} {v_names : List Int32} {v_bends : List Int32} {v_high : List Int32} {v_to : List Int32} {v_pileSize : List Int32} {v_planLine : List Int32} {v_planWay : List Int32} {v_way1 : List Int32} {v_bestWay : List Int32} {v_order1 : List Int32} {v_placeIn : List Int32} {v_bodyKind : List Int32} {v_trace : List Int32} {v_shelf : List Int32} {v_many : List Int32} {v_items : List Int64} {v_carried : List Int64} {w_shapeRows : List Int32} {w_shapeColumns : List Int32} {w_row : List Int32} {w_column : List Int32} {w_below : List Int32} {w_face : List Int32} {N d : Nat} (hd : 2 ≤ d) (hf : fX9_liesFlat N x1 v_rowsOf v_columnsOf v_shapeRows v_shapeColumns v_row v_column v_below v_face = some (w_shapeRows, w_shapeColumns, w_row, w_column, w_below, w_face)) : mm_Ct l yX9_liesFlat cX9_liesFlat 3 none d D (mm_T cI cL cS cH) [.ref (a 0), .int x1] (wd_X9 cI cL cS cH a v_keptMany v_done v_rowsOf v_columnsOf v_folded v_wronged v_tapeMany v_textMany v_base v_at v_ends v_fault v_opened v_bentMany v_bentWrong v_moreWorn v_planned v_allWrong v_allWorn v_z v_wishedField v_isFound v_bestWrong v_bestWorn v_bestMany v_soughtBy v_sought v_soughtAt v_foundMany v_foundOrder v_isKept v_imageRows v_imageColumns v_imageFolded v_imageWronged v_bodies v_ran v_ownKind v_ownNumber v_limit v_changeWas v_changeIs v_shapeRows v_shapeColumns v_row v_column v_below v_face v_worn v_lastBend v_tape v_text v_names v_bends v_high v_to v_pileSize v_planLine v_planWay v_way1 v_bestWay v_order1 v_placeIn v_bodyKind v_trace v_shelf v_many v_items v_carried) (wd_X9 cI cL cS cH a v_keptMany v_done v_rowsOf v_columnsOf v_folded v_wronged v_tapeMany v_textMany v_base v_at v_ends v_fault v_opened v_bentMany v_bentWrong v_moreWorn v_planned v_allWrong v_allWorn v_z v_wishedField v_isFound v_bestWrong v_bestWorn v_bestMany v_soughtBy v_sought v_soughtAt v_foundMany v_foundOrder v_isKept v_imageRows v_imageColumns v_imageFolded v_imageWronged v_bodies v_ran v_ownKind v_ownNumber v_limit v_changeWas v_changeIs w_shapeRows w_shapeColumns w_row w_column w_below w_face v_worn v_lastBend v_tape v_text v_names v_bends v_high v_to v_pileSize v_planLine v_planWay v_way1 v_bestWay v_order1 v_placeIn v_bodyKind v_trace v_shelf v_many v_items v_carried) none := by
  refine mm_of (by decide) (Nat.le_of_ble_eq_true rfl) ?_
  intro p e s m args below meth c A H locs ls C0 hP hD hA hS hl
  have C0 : mm_Cx p s m args meth c RX9 cX9_liesFlat 3 none D (mm_T cI cL cS cH) A := C0
  obtain ⟨hx, hb, hml, hown, hts, hr, hlocks, hK, hSt⟩ := id C0
  have hl : lv_has ls 3 [(0, .ref (a 0)), (1, .int x1)] := hl
  unfold fX9_liesFlat at hf
  refine lv_aload_n hx hb dX9_liesFlat_0 rfl (lv_at hl 0 rfl) ?_
  refine mm_get C0 hP iw_X9 0 rfl rfl 7 (by decide) fl_X9_19 rfl dX9_liesFlat_1 ?_
  refine lv_iload_n hx hb dX9_liesFlat_4 rfl (lv_at hl 1 rfl) ?_
  refine lv_aload_n hx hb dX9_liesFlat_5 rfl (lv_at hl 0 rfl) ?_
  refine mm_get C0 hP iw_X9 0 rfl rfl 5 (by decide) fl_X9_121 rfl dX9_liesFlat_6 ?_
  obtain ⟨h_1, hf⟩ := mm_cks hf
  refine mm_iast C0 hP hD hS 4 rfl h_1 dX9_liesFlat_9 (w2 := (wd_X9 cI cL cS cH a v_keptMany v_done v_rowsOf v_columnsOf v_folded v_wronged v_tapeMany v_textMany v_base v_at v_ends v_fault v_opened v_bentMany v_bentWrong v_moreWorn v_planned v_allWrong v_allWorn v_z v_wishedField v_isFound v_bestWrong v_bestWorn v_bestMany v_soughtBy v_sought v_soughtAt v_foundMany v_foundOrder v_isKept v_imageRows v_imageColumns v_imageFolded v_imageWronged v_bodies v_ran v_ownKind v_ownNumber v_limit v_changeWas v_changeIs (mm_is v_shapeRows x1 v_rowsOf) v_shapeColumns v_row v_column v_below v_face v_worn v_lastBend v_tape v_text v_names v_bends v_high v_to v_pileSize v_planLine v_planWay v_way1 v_bestWay v_order1 v_placeIn v_bodyKind v_trace v_shelf v_many v_items v_carried)) rfl (fun H locs hP hD hS => ?_)
  generalize el_2 : (mm_is v_shapeRows x1 v_rowsOf) = l_2 at hP hD
  have hf := mm_nms hf el_2.symm
  refine lv_aload_n hx hb dX9_liesFlat_10 rfl (lv_at hl 0 rfl) ?_
  refine mm_get C0 hP iw_X9 0 rfl rfl 8 (by decide) fl_X9_22 rfl dX9_liesFlat_11 ?_
  refine lv_iload_n hx hb dX9_liesFlat_14 rfl (lv_at hl 1 rfl) ?_
  refine lv_aload_n hx hb dX9_liesFlat_15 rfl (lv_at hl 0 rfl) ?_
  refine mm_get C0 hP iw_X9 0 rfl rfl 6 (by decide) fl_X9_124 rfl dX9_liesFlat_16 ?_
  obtain ⟨h_3, hf⟩ := mm_cks hf
  refine mm_iast C0 hP hD hS 5 rfl h_3 dX9_liesFlat_19 (w2 := (wd_X9 cI cL cS cH a v_keptMany v_done v_rowsOf v_columnsOf v_folded v_wronged v_tapeMany v_textMany v_base v_at v_ends v_fault v_opened v_bentMany v_bentWrong v_moreWorn v_planned v_allWrong v_allWorn v_z v_wishedField v_isFound v_bestWrong v_bestWorn v_bestMany v_soughtBy v_sought v_soughtAt v_foundMany v_foundOrder v_isKept v_imageRows v_imageColumns v_imageFolded v_imageWronged v_bodies v_ran v_ownKind v_ownNumber v_limit v_changeWas v_changeIs l_2 (mm_is v_shapeColumns x1 v_columnsOf) v_row v_column v_below v_face v_worn v_lastBend v_tape v_text v_names v_bends v_high v_to v_pileSize v_planLine v_planWay v_way1 v_bestWay v_order1 v_placeIn v_bodyKind v_trace v_shelf v_many v_items v_carried)) rfl (fun H locs hP hD hS => ?_)
  generalize el_4 : (mm_is v_shapeColumns x1 v_columnsOf) = l_4 at hP hD
  have hf := mm_nms hf el_4.symm
  refine lv_iconst (v := 0) hx hb dX9_liesFlat_20 (by decide) ?_
  refine lv_istore_n (lv' := [(2, .int (0 : Int32)), (0, .ref (a 0)), (1, .int x1)]) hx hb dX9_liesFlat_21 rfl hl (by decide) rfl (fun ls hl => ?_)
  exact tX9_liesFlat_22 hd C0 hA N  N _ _ _ _ _ _ _ _ _ _ H locs ls hf hP hD hS (lv_sub hl [1, 2, 0] rfl)

theorem nb_dX9_isNew_0 : bls_w cX9_isNew [(0, [42]), (1, [27]), (2, [181, 0, 121]), (5, [42]), (6, [28]), (7, [181, 0, 124]), (10, [42]), (11, [3]), (12, [182, 0, 131]), (15, [3]), (16, [62]), (17, [29])] := bls_of (by decide +kernel)
theorem dX9_isNew_0 : decode cX9_isNew 0 = .ok (.aload_n 0, 1) := op_42 nb_dX9_isNew_0.1
theorem dX9_isNew_1 : decode cX9_isNew 1 = .ok (.iload_n 1, 1) := op_27 nb_dX9_isNew_0.2.1
set_option maxRecDepth 100000 in
theorem dX9_isNew_2 : decode cX9_isNew 2 = .ok (.putfield 121, 3) := (op_181 nb_dX9_isNew_0.2.2.1).trans rfl
theorem dX9_isNew_5 : decode cX9_isNew 5 = .ok (.aload_n 0, 1) := op_42 nb_dX9_isNew_0.2.2.2.1
theorem dX9_isNew_6 : decode cX9_isNew 6 = .ok (.iload_n 2, 1) := op_28 nb_dX9_isNew_0.2.2.2.2.1
set_option maxRecDepth 100000 in
theorem dX9_isNew_7 : decode cX9_isNew 7 = .ok (.putfield 124, 3) := (op_181 nb_dX9_isNew_0.2.2.2.2.2.1).trans rfl
theorem dX9_isNew_10 : decode cX9_isNew 10 = .ok (.aload_n 0, 1) := op_42 nb_dX9_isNew_0.2.2.2.2.2.2.1
theorem dX9_isNew_11 : decode cX9_isNew 11 = .ok (.iconst 0, 1) := op_3 nb_dX9_isNew_0.2.2.2.2.2.2.2.1
set_option maxRecDepth 100000 in
theorem dX9_isNew_12 : decode cX9_isNew 12 = .ok (.invokevirtual 131, 3) := (op_182 nb_dX9_isNew_0.2.2.2.2.2.2.2.2.1).trans rfl
theorem dX9_isNew_15 : decode cX9_isNew 15 = .ok (.iconst 0, 1) := op_3 nb_dX9_isNew_0.2.2.2.2.2.2.2.2.2.1
theorem dX9_isNew_16 : decode cX9_isNew 16 = .ok (.istore_n 3, 1) := op_62 nb_dX9_isNew_0.2.2.2.2.2.2.2.2.2.2.1
theorem dX9_isNew_17 : decode cX9_isNew 17 = .ok (.iload_n 3, 1) := op_29 nb_dX9_isNew_0.2.2.2.2.2.2.2.2.2.2.2.1
theorem nb_dX9_isNew_18 : bls_w cX9_isNew [(18, [16, 64]), (20, [162, 0, 23]), (23, [42]), (24, [180, 0, 37]), (27, [29]), (28, [3]), (29, [79]), (30, [42]), (31, [180, 0, 40]), (34, [29]), (35, [3]), (36, [79])] := bls_of (by decide +kernel)
set_option maxRecDepth 100000 in
theorem dX9_isNew_18 : decode cX9_isNew 18 = .ok (.bipush 64, 2) := (op_16 nb_dX9_isNew_18.1).trans rfl
set_option maxRecDepth 100000 in
theorem dX9_isNew_20 : decode cX9_isNew 20 = .ok (.if_icmp .ge 23, 3) := (op_162 nb_dX9_isNew_18.2.1).trans rfl
theorem dX9_isNew_23 : decode cX9_isNew 23 = .ok (.aload_n 0, 1) := op_42 nb_dX9_isNew_18.2.2.1
set_option maxRecDepth 100000 in
theorem dX9_isNew_24 : decode cX9_isNew 24 = .ok (.getfield 37, 3) := (op_180 nb_dX9_isNew_18.2.2.2.1).trans rfl
theorem dX9_isNew_27 : decode cX9_isNew 27 = .ok (.iload_n 3, 1) := op_29 nb_dX9_isNew_18.2.2.2.2.1
theorem dX9_isNew_28 : decode cX9_isNew 28 = .ok (.iconst 0, 1) := op_3 nb_dX9_isNew_18.2.2.2.2.2.1
theorem dX9_isNew_29 : decode cX9_isNew 29 = .ok (.iastore, 1) := op_79 nb_dX9_isNew_18.2.2.2.2.2.2.1
theorem dX9_isNew_30 : decode cX9_isNew 30 = .ok (.aload_n 0, 1) := op_42 nb_dX9_isNew_18.2.2.2.2.2.2.2.1
set_option maxRecDepth 100000 in
theorem dX9_isNew_31 : decode cX9_isNew 31 = .ok (.getfield 40, 3) := (op_180 nb_dX9_isNew_18.2.2.2.2.2.2.2.2.1).trans rfl
theorem dX9_isNew_34 : decode cX9_isNew 34 = .ok (.iload_n 3, 1) := op_29 nb_dX9_isNew_18.2.2.2.2.2.2.2.2.2.1
theorem dX9_isNew_35 : decode cX9_isNew 35 = .ok (.iconst 0, 1) := op_3 nb_dX9_isNew_18.2.2.2.2.2.2.2.2.2.2.1
theorem dX9_isNew_36 : decode cX9_isNew 36 = .ok (.iastore, 1) := op_79 nb_dX9_isNew_18.2.2.2.2.2.2.2.2.2.2.2.1
theorem nb_dX9_isNew_37 : bls_w cX9_isNew [(37, [132, 3, 1]), (40, [167, 255, 233]), (43, [42]), (44, [3]), (45, [181, 0, 135]), (48, [42]), (49, [3]), (50, [181, 0, 138]), (53, [177])] := bls_of (by decide +kernel)
set_option maxRecDepth 100000 in
theorem dX9_isNew_37 : decode cX9_isNew 37 = .ok (.iinc 3 1, 3) := (op_132 nb_dX9_isNew_37.1).trans rfl
set_option maxRecDepth 100000 in
theorem dX9_isNew_40 : decode cX9_isNew 40 = .ok (.goto (-23), 3) := (op_167 nb_dX9_isNew_37.2.1).trans rfl
theorem dX9_isNew_43 : decode cX9_isNew 43 = .ok (.aload_n 0, 1) := op_42 nb_dX9_isNew_37.2.2.1
theorem dX9_isNew_44 : decode cX9_isNew 44 = .ok (.iconst 0, 1) := op_3 nb_dX9_isNew_37.2.2.2.1
set_option maxRecDepth 100000 in
theorem dX9_isNew_45 : decode cX9_isNew 45 = .ok (.putfield 135, 3) := (op_181 nb_dX9_isNew_37.2.2.2.2.1).trans rfl
theorem dX9_isNew_48 : decode cX9_isNew 48 = .ok (.aload_n 0, 1) := op_42 nb_dX9_isNew_37.2.2.2.2.2.1
theorem dX9_isNew_49 : decode cX9_isNew 49 = .ok (.iconst 0, 1) := op_3 nb_dX9_isNew_37.2.2.2.2.2.2.1
set_option maxRecDepth 100000 in
theorem dX9_isNew_50 : decode cX9_isNew 50 = .ok (.putfield 138, 3) := (op_181 nb_dX9_isNew_37.2.2.2.2.2.2.2.1).trans rfl
theorem dX9_isNew_53 : decode cX9_isNew 53 = .ok (.return_, 1) := op_177 nb_dX9_isNew_37.2.2.2.2.2.2.2.2.1
def fX9_isNew_17 (N : Nat)  : Nat → Int32 → Int32 → Int32 → Int32 → Int32 → List Int32 → List Int32 → List Int32 → List Int32 → List Int32 → List Int32 → List Int32 → List Int32 → Option (Int32 × Int32 × Int32 × Int32 × List Int32 × List Int32 × List Int32 × List Int32 × List Int32 × List Int32 × List Int32 × List Int32)
  | 0 => fun _ _ _ _ _ _ _ _ _ _ _ _ _ => none
  | n + 1 => fun x3 v_rowsOf v_columnsOf v_folded v_wronged v_shapeRows v_shapeColumns v_row v_column v_below v_face v_worn v_lastBend =>
    if (64 : Int32) ≤ x3 then
    (some (v_rowsOf, v_columnsOf, (0 : Int32), (0 : Int32), v_shapeRows, v_shapeColumns, v_row, v_column, v_below, v_face, v_worn, v_lastBend))
    else (mm_ck (mm_inb x3 v_worn.length) (mm_nm (mm_is v_worn x3 (0 : Int32)) (fun (l_10 : List Int32) =>
    mm_ck (mm_inb x3 v_lastBend.length) (mm_nm (mm_is v_lastBend x3 (0 : Int32)) (fun (l_12 : List Int32) =>
    mm_nm (x3 + (1 : Int32)) (fun (y_13 : Int32) =>
    fX9_isNew_17 N n y_13 v_rowsOf v_columnsOf v_folded v_wronged v_shapeRows v_shapeColumns v_row v_column v_below v_face l_10 l_12))))))

set_option maxHeartbeats 4000000 in
set_option maxRecDepth 100000 in
theorem tX9_isNew_17 {p : Program} {l : Launch} {e : Env} {s : State} {m : MethodId} {args : Array Value} {below : List Frame} {meth : Method} {c : Code} {D : va_G} {cI cL cS cH : ClassId} {A : Nat → Prop} {d : Nat} {a : Nat → Nat} (hd : 3 ≤ d) (C0 : mm_Cx p s m args meth c RX9 cX9_isNew 4 none D (mm_T cI cL cS cH) A) (hA : ∀ q, s.heap.size ≤ q → A q) {v_keptMany : Int32} {v_done : Int32} {v_tapeMany : Int32} {v_textMany : Int32} {v_base : Int32} {v_at : Int32} {v_ends : Int32} {v_fault : Int32} {v_opened : Int32} {v_bentMany : Int32} {v_bentWrong : Int32} {v_moreWorn : Int32} {v_planned : Int32} {v_allWrong : Int32} {v_allWorn : Int32} {v_z : Int32} {v_wishedField : Int32} {v_isFound : Bool} {v_bestWrong : Int32} {v_bestWorn : Int32} {v_bestMany : Int32} {v_soughtBy : Int32} {v_sought : Int32} {v_soughtAt : Int32} {v_foundMany : Int32} {v_foundOrder : Int32} {v_isKept : Bool} {v_imageRows : Int32} {v_imageColumns : Int32} {v_imageFolded : Int32} {v_imageWronged : Int32} {v_bodies : Int32} {v_ran : Int32} {v_ownKind : Int32} {v_ownNumber : Int32} {v_limit : List Int32} {v_changeWas : List Int32} {v_changeIs : List Int32} {v_tape : List Int32} {v_text : List Int32} {v_names : List Int32} {v_bends : List Int32} {v_high : List Int32} {v_to : List Int32} {v_pileSize : List Int32} {v_planLine : List Int32} {v_planWay : List Int32} {v_way1 : List Int32} {v_bestWay : List Int32} {v_order1 : List Int32} {v_placeIn : List Int32} {v_bodyKind : List Int32} {v_trace : List Int32} {v_shelf : List Int32} {v_many : List Int32} {v_items : List Int64} {v_carried : List Int64} {w_rowsOf : Int32} {w_columnsOf : Int32} {w_folded : Int32} {w_wronged : Int32} {w_shapeRows : List Int32} {w_shapeColumns : List Int32} {w_row : List Int32} {w_column : List Int32} {w_below : List Int32} {w_face : List Int32} {w_worn : List Int32} {w_lastBend : List Int32} (N : Nat)  : ∀ (n : Nat), ∀ (x3 : Int32) (v_rowsOf : Int32) (v_columnsOf : Int32) (v_folded : Int32) (v_wronged : Int32) (v_shapeRows : List Int32) (v_shapeColumns : List Int32) (v_row : List Int32) (v_column : List Int32) (v_below : List Int32) (v_face : List Int32) (v_worn : List Int32) (v_lastBend : List Int32) (H : Heap) (locs : List Loc) (ls : Array Slot), fX9_isNew_17 N n x3 v_rowsOf v_columnsOf v_folded v_wronged v_shapeRows v_shapeColumns v_row v_column v_below v_face v_worn v_lastBend = some (w_rowsOf, w_columnsOf, w_folded, w_wronged, w_shapeRows, w_shapeColumns, w_row, w_column, w_below, w_face, w_worn, w_lastBend) → va_P D mm_cl (wd_X9 cI cL cS cH a v_keptMany v_done v_rowsOf v_columnsOf v_folded v_wronged v_tapeMany v_textMany v_base v_at v_ends v_fault v_opened v_bentMany v_bentWrong v_moreWorn v_planned v_allWrong v_allWorn v_z v_wishedField v_isFound v_bestWrong v_bestWorn v_bestMany v_soughtBy v_sought v_soughtAt v_foundMany v_foundOrder v_isKept v_imageRows v_imageColumns v_imageFolded v_imageWronged v_bodies v_ran v_ownKind v_ownNumber v_limit v_changeWas v_changeIs v_shapeRows v_shapeColumns v_row v_column v_below v_face v_worn v_lastBend v_tape v_text v_names v_bends v_high v_to v_pileSize v_planLine v_planWay v_way1 v_bestWay v_order1 v_placeIn v_bodyKind v_trace v_shelf v_many v_items v_carried) H → va_D A (wd_X9 cI cL cS cH a v_keptMany v_done v_rowsOf v_columnsOf v_folded v_wronged v_tapeMany v_textMany v_base v_at v_ends v_fault v_opened v_bentMany v_bentWrong v_moreWorn v_planned v_allWrong v_allWorn v_z v_wishedField v_isFound v_bestWrong v_bestWorn v_bestMany v_soughtBy v_sought v_soughtAt v_foundMany v_foundOrder v_isKept v_imageRows v_imageColumns v_imageFolded v_imageWronged v_bodies v_ran v_ownKind v_ownNumber v_limit v_changeWas v_changeIs v_shapeRows v_shapeColumns v_row v_column v_below v_face v_worn v_lastBend v_tape v_text v_names v_bends v_high v_to v_pileSize v_planLine v_planWay v_way1 v_bestWay v_order1 v_placeIn v_bodyKind v_trace v_shelf v_many v_items v_carried) → va_S A s.heap H locs → lv_has ls 4 [(0, .ref (a 0)), (3, .int x3)] → W p l e (mm_rr d) s m args below meth c H locs 0 0 (mm_Z below D A (wd_X9 cI cL cS cH a v_keptMany v_done w_rowsOf w_columnsOf w_folded w_wronged v_tapeMany v_textMany v_base v_at v_ends v_fault v_opened v_bentMany v_bentWrong v_moreWorn v_planned v_allWrong v_allWorn v_z v_wishedField v_isFound v_bestWrong v_bestWorn v_bestMany v_soughtBy v_sought v_soughtAt v_foundMany v_foundOrder v_isKept v_imageRows v_imageColumns v_imageFolded v_imageWronged v_bodies v_ran v_ownKind v_ownNumber v_limit v_changeWas v_changeIs w_shapeRows w_shapeColumns w_row w_column w_below w_face w_worn w_lastBend v_tape v_text v_names v_bends v_high v_to v_pileSize v_planLine v_planWay v_way1 v_bestWay v_order1 v_placeIn v_bodyKind v_trace v_shelf v_many v_items v_carried) none args s) (F0 m 17 ls []) := by
  obtain ⟨hx, hb, hml, hown, hts, hr, hlocks, hK, hSt⟩ := id C0
  intro n
  induction n with
  | zero =>
    intro x3 v_rowsOf v_columnsOf v_folded v_wronged v_shapeRows v_shapeColumns v_row v_column v_below v_face v_worn v_lastBend H locs ls hf
    cases (show none = some _ from hf)
  | succ n ih =>
    intro x3 v_rowsOf v_columnsOf v_folded v_wronged v_shapeRows v_shapeColumns v_row v_column v_below v_face v_worn v_lastBend H locs ls hf hP hD hS hl
    unfold fX9_isNew_17 at hf
    refine lv_iload_n hx hb dX9_isNew_17 rfl (lv_at hl 1 rfl) ?_
    refine lv_bipush (v := 64) hx hb dX9_isNew_18 (by decide) ?_
    refine lv_icmp_ge (tgt := 43) hx hb dX9_isNew_20 (by decide) (fun c_8 => ?_) (fun c_8 => ?_)
    · have hf := mm_ip hf c_8
      refine lv_aload_n hx hb dX9_isNew_43 rfl (lv_at hl 0 rfl) ?_
      refine lv_iconst (v := 0) hx hb dX9_isNew_44 (by decide) ?_
      refine mm_put C0 hP hD hS iw_X9 tyX9 tyX9_ok nmX9 0 rfl rfl 15 (by decide) fl_X9_135 rfl rfl rfl (Nat.le_of_ble_eq_true rfl) dX9_isNew_45 (w2 := (wd_X9 cI cL cS cH a v_keptMany v_done v_rowsOf v_columnsOf (0 : Int32) v_wronged v_tapeMany v_textMany v_base v_at v_ends v_fault v_opened v_bentMany v_bentWrong v_moreWorn v_planned v_allWrong v_allWorn v_z v_wishedField v_isFound v_bestWrong v_bestWorn v_bestMany v_soughtBy v_sought v_soughtAt v_foundMany v_foundOrder v_isKept v_imageRows v_imageColumns v_imageFolded v_imageWronged v_bodies v_ran v_ownKind v_ownNumber v_limit v_changeWas v_changeIs v_shapeRows v_shapeColumns v_row v_column v_below v_face v_worn v_lastBend v_tape v_text v_names v_bends v_high v_to v_pileSize v_planLine v_planWay v_way1 v_bestWay v_order1 v_placeIn v_bodyKind v_trace v_shelf v_many v_items v_carried)) rfl (fun H locs hP hD hS => ?_)
      refine lv_aload_n hx hb dX9_isNew_48 rfl (lv_at hl 0 rfl) ?_
      refine lv_iconst (v := 0) hx hb dX9_isNew_49 (by decide) ?_
      refine mm_put C0 hP hD hS iw_X9 tyX9 tyX9_ok nmX9 0 rfl rfl 16 (by decide) fl_X9_138 rfl rfl rfl (Nat.le_of_ble_eq_true rfl) dX9_isNew_50 (w2 := (wd_X9 cI cL cS cH a v_keptMany v_done v_rowsOf v_columnsOf (0 : Int32) (0 : Int32) v_tapeMany v_textMany v_base v_at v_ends v_fault v_opened v_bentMany v_bentWrong v_moreWorn v_planned v_allWrong v_allWorn v_z v_wishedField v_isFound v_bestWrong v_bestWorn v_bestMany v_soughtBy v_sought v_soughtAt v_foundMany v_foundOrder v_isKept v_imageRows v_imageColumns v_imageFolded v_imageWronged v_bodies v_ran v_ownKind v_ownNumber v_limit v_changeWas v_changeIs v_shapeRows v_shapeColumns v_row v_column v_below v_face v_worn v_lastBend v_tape v_text v_names v_bends v_high v_to v_pileSize v_planLine v_planWay v_way1 v_bestWay v_order1 v_placeIn v_bodyKind v_trace v_shelf v_many v_items v_carried)) rfl (fun H locs hP hD hS => ?_)
      apply mm_sub12 hf
      exact mm_vret C0 hP hD hS dX9_isNew_53
    · have hf := mm_in hf c_8
      refine lv_aload_n hx hb dX9_isNew_23 rfl (lv_at hl 0 rfl) ?_
      refine mm_get C0 hP iw_X9 0 rfl rfl 13 (by decide) fl_X9_37 rfl dX9_isNew_24 ?_
      refine lv_iload_n hx hb dX9_isNew_27 rfl (lv_at hl 1 rfl) ?_
      refine lv_iconst (v := 0) hx hb dX9_isNew_28 (by decide) ?_
      obtain ⟨h_9, hf⟩ := mm_cks hf
      refine mm_iast C0 hP hD hS 10 rfl h_9 dX9_isNew_29 (w2 := (wd_X9 cI cL cS cH a v_keptMany v_done v_rowsOf v_columnsOf v_folded v_wronged v_tapeMany v_textMany v_base v_at v_ends v_fault v_opened v_bentMany v_bentWrong v_moreWorn v_planned v_allWrong v_allWorn v_z v_wishedField v_isFound v_bestWrong v_bestWorn v_bestMany v_soughtBy v_sought v_soughtAt v_foundMany v_foundOrder v_isKept v_imageRows v_imageColumns v_imageFolded v_imageWronged v_bodies v_ran v_ownKind v_ownNumber v_limit v_changeWas v_changeIs v_shapeRows v_shapeColumns v_row v_column v_below v_face (mm_is v_worn x3 (0 : Int32)) v_lastBend v_tape v_text v_names v_bends v_high v_to v_pileSize v_planLine v_planWay v_way1 v_bestWay v_order1 v_placeIn v_bodyKind v_trace v_shelf v_many v_items v_carried)) rfl (fun H locs hP hD hS => ?_)
      generalize el_10 : (mm_is v_worn x3 (0 : Int32)) = l_10 at hP hD
      have hf := mm_nms hf el_10.symm
      refine lv_aload_n hx hb dX9_isNew_30 rfl (lv_at hl 0 rfl) ?_
      refine mm_get C0 hP iw_X9 0 rfl rfl 14 (by decide) fl_X9_40 rfl dX9_isNew_31 ?_
      refine lv_iload_n hx hb dX9_isNew_34 rfl (lv_at hl 1 rfl) ?_
      refine lv_iconst (v := 0) hx hb dX9_isNew_35 (by decide) ?_
      obtain ⟨h_11, hf⟩ := mm_cks hf
      refine mm_iast C0 hP hD hS 11 rfl h_11 dX9_isNew_36 (w2 := (wd_X9 cI cL cS cH a v_keptMany v_done v_rowsOf v_columnsOf v_folded v_wronged v_tapeMany v_textMany v_base v_at v_ends v_fault v_opened v_bentMany v_bentWrong v_moreWorn v_planned v_allWrong v_allWorn v_z v_wishedField v_isFound v_bestWrong v_bestWorn v_bestMany v_soughtBy v_sought v_soughtAt v_foundMany v_foundOrder v_isKept v_imageRows v_imageColumns v_imageFolded v_imageWronged v_bodies v_ran v_ownKind v_ownNumber v_limit v_changeWas v_changeIs v_shapeRows v_shapeColumns v_row v_column v_below v_face l_10 (mm_is v_lastBend x3 (0 : Int32)) v_tape v_text v_names v_bends v_high v_to v_pileSize v_planLine v_planWay v_way1 v_bestWay v_order1 v_placeIn v_bodyKind v_trace v_shelf v_many v_items v_carried)) rfl (fun H locs hP hD hS => ?_)
      generalize el_12 : (mm_is v_lastBend x3 (0 : Int32)) = l_12 at hP hD
      have hf := mm_nms hf el_12.symm
      obtain ⟨y_13, ey_13⟩ : ∃ z : Int32, z = x3 + (1 : Int32) := ⟨_, rfl⟩
      have hf := mm_nms hf ey_13
      refine lv_iinc (v := y_13) (lv' := [(3, .int y_13), (0, .ref (a 0))]) hx hb dX9_isNew_37 hl (k := 1) rfl (by rw [ey_13]; rfl) (by decide) rfl (fun ls hl => ?_)
      refine lv_goto (tgt := 17) hx hb dX9_isNew_40 (by decide) ?_
      exact ih _ _ _ _ _ _ _ _ _ _ _ _ _ H locs ls hf hP hD hS (lv_sub hl [1, 0] rfl)

def fX9_isNew (N : Nat) (x1 : Int32) (x2 : Int32) (v_rowsOf : Int32) (v_columnsOf : Int32) (v_folded : Int32) (v_wronged : Int32) (v_shapeRows : List Int32) (v_shapeColumns : List Int32) (v_row : List Int32) (v_column : List Int32) (v_below : List Int32) (v_face : List Int32) (v_worn : List Int32) (v_lastBend : List Int32) : Option (Int32 × Int32 × Int32 × Int32 × List Int32 × List Int32 × List Int32 × List Int32 × List Int32 × List Int32 × List Int32 × List Int32) :=
    mm_bd6 (fX9_liesFlat N (0 : Int32) x1 x2 v_shapeRows v_shapeColumns v_row v_column v_below v_face) (fun (w_1 : List Int32) (w_2 : List Int32) (w_3 : List Int32) (w_4 : List Int32) (w_5 : List Int32) (w_6 : List Int32) =>
    fX9_isNew_17 N N (0 : Int32) x1 x2 v_folded v_wronged w_1 w_2 w_3 w_4 w_5 w_6 v_worn v_lastBend)

set_option maxHeartbeats 4000000 in
set_option maxRecDepth 100000 in
theorem ctX9_isNew {l : Launch} {D : va_G} {cI cL cS cH : ClassId} {a : Nat → Nat} {x1 : Int32} {x2 : Int32} {v_keptMany : Int32} {v_done : Int32} {v_rowsOf : Int32} {v_columnsOf : Int32} {v_folded : Int32} {v_wronged : Int32} {v_tapeMany : Int32} {v_textMany : Int32} {v_base : Int32} {v_at : Int32} {v_ends : Int32} {v_fault : Int32} {v_opened : Int32} {v_bentMany : Int32} {v_bentWrong : Int32} {v_moreWorn : Int32} {v_planned : Int32} {v_allWrong : Int32} {v_allWorn : Int32} {v_z : Int32} {v_wishedField : Int32} {v_isFound : Bool} {v_bestWrong : Int32} {v_bestWorn : Int32} {v_bestMany : Int32} {v_soughtBy : Int32} {v_sought : Int32} {v_soughtAt : Int32} {v_foundMany : Int32} {v_foundOrder : Int32} {v_isKept : Bool} {v_imageRows : Int32} {v_imageColumns : Int32} {v_imageFolded : Int32} {v_imageWronged : Int32} {v_bodies : Int32} {v_ran : Int32} {v_ownKind : Int32} {v_ownNumber : Int32} {v_limit : List Int32} {v_changeWas : List Int32} {v_changeIs : List Int32} {v_shapeRows : List Int32} {v_shapeColumns : List Int32} {v_row : List Int32} {v_column : List Int32} {v_below : List Int32} {v_face : List Int32} {v_worn : List Int32} {v_lastBend : List Int32} {v_tape : List Int32} {v_text : List Int32} {v_names : List Int32} {v_bends : List Int32} {v_high : List Int32} {v_to : List Int32} {v_pileSize : List Int32} {v_planLine : List Int32} {v_planWay : List Int32} {v_way1 : List Int32} {v_bestWay : List Int32} {v_order1 : List Int32} {v_placeIn : List Int32} {v_bodyKind : List Int32} {v_trace : List Int32} {v_shelf : List Int32} {v_many : List Int32} {v_items : List Int64} {v_carried : List Int64} {w_rowsOf : Int32} {w_columnsOf : Int32} {w_folded : Int32} {w_wronged : Int32} {w_shapeRows : List Int32} {w_shapeColumns : List Int32} {w_row : List Int32} {w_column : List Int32} {w_below : List Int32} {w_face : List Int32} {w_worn : List Int32} {w_lastBend : List Int32} {N d : Nat} (hd : 3 ≤ d) (hf : fX9_isNew N x1 x2 v_rowsOf v_columnsOf v_folded v_wronged v_shapeRows v_shapeColumns v_row v_column v_below v_face v_worn v_lastBend = some (w_rowsOf, w_columnsOf, w_folded, w_wronged, w_shapeRows, w_shapeColumns, w_row, w_column, w_below, w_face, w_worn, w_lastBend)) : mm_Ct l yX9_isNew cX9_isNew 4 none d D (mm_T cI cL cS cH) [.ref (a 0), .int x1, .int x2] (wd_X9 cI cL cS cH a v_keptMany v_done v_rowsOf v_columnsOf v_folded v_wronged v_tapeMany v_textMany v_base v_at v_ends v_fault v_opened v_bentMany v_bentWrong v_moreWorn v_planned v_allWrong v_allWorn v_z v_wishedField v_isFound v_bestWrong v_bestWorn v_bestMany v_soughtBy v_sought v_soughtAt v_foundMany v_foundOrder v_isKept v_imageRows v_imageColumns v_imageFolded v_imageWronged v_bodies v_ran v_ownKind v_ownNumber v_limit v_changeWas v_changeIs v_shapeRows v_shapeColumns v_row v_column v_below v_face v_worn v_lastBend v_tape v_text v_names v_bends v_high v_to v_pileSize v_planLine v_planWay v_way1 v_bestWay v_order1 v_placeIn v_bodyKind v_trace v_shelf v_many v_items v_carried) (wd_X9 cI cL cS cH a v_keptMany v_done w_rowsOf w_columnsOf w_folded w_wronged v_tapeMany v_textMany v_base v_at v_ends v_fault v_opened v_bentMany v_bentWrong v_moreWorn v_planned v_allWrong v_allWorn v_z v_wishedField v_isFound v_bestWrong v_bestWorn v_bestMany v_soughtBy v_sought v_soughtAt v_foundMany v_foundOrder v_isKept v_imageRows v_imageColumns v_imageFolded v_imageWronged v_bodies v_ran v_ownKind v_ownNumber v_limit v_changeWas v_changeIs w_shapeRows w_shapeColumns w_row w_column w_below w_face w_worn w_lastBend v_tape v_text v_names v_bends v_high v_to v_pileSize v_planLine v_planWay v_way1 v_bestWay v_order1 v_placeIn v_bodyKind v_trace v_shelf v_many v_items v_carried) none := by
  refine mm_of (by decide) (Nat.le_of_ble_eq_true rfl) ?_
  intro p e s m args below meth c A H locs ls C0 hP hD hA hS hl
  have C0 : mm_Cx p s m args meth c RX9 cX9_isNew 4 none D (mm_T cI cL cS cH) A := C0
  obtain ⟨hx, hb, hml, hown, hts, hr, hlocks, hK, hSt⟩ := id C0
  have hl : lv_has ls 4 [(0, .ref (a 0)), (1, .int x1), (2, .int x2)] := hl
  unfold fX9_isNew at hf
  refine lv_aload_n hx hb dX9_isNew_0 rfl (lv_at hl 0 rfl) ?_
  refine lv_iload_n hx hb dX9_isNew_1 rfl (lv_at hl 1 rfl) ?_
  refine mm_put C0 hP hD hS iw_X9 tyX9 tyX9_ok nmX9 0 rfl rfl 5 (by decide) fl_X9_121 rfl rfl rfl (Nat.le_of_ble_eq_true rfl) dX9_isNew_2 (w2 := (wd_X9 cI cL cS cH a v_keptMany v_done x1 v_columnsOf v_folded v_wronged v_tapeMany v_textMany v_base v_at v_ends v_fault v_opened v_bentMany v_bentWrong v_moreWorn v_planned v_allWrong v_allWorn v_z v_wishedField v_isFound v_bestWrong v_bestWorn v_bestMany v_soughtBy v_sought v_soughtAt v_foundMany v_foundOrder v_isKept v_imageRows v_imageColumns v_imageFolded v_imageWronged v_bodies v_ran v_ownKind v_ownNumber v_limit v_changeWas v_changeIs v_shapeRows v_shapeColumns v_row v_column v_below v_face v_worn v_lastBend v_tape v_text v_names v_bends v_high v_to v_pileSize v_planLine v_planWay v_way1 v_bestWay v_order1 v_placeIn v_bodyKind v_trace v_shelf v_many v_items v_carried)) rfl (fun H locs hP hD hS => ?_)
  refine lv_aload_n hx hb dX9_isNew_5 rfl (lv_at hl 0 rfl) ?_
  refine lv_iload_n hx hb dX9_isNew_6 rfl (lv_at hl 2 rfl) ?_
  refine mm_put C0 hP hD hS iw_X9 tyX9 tyX9_ok nmX9 0 rfl rfl 6 (by decide) fl_X9_124 rfl rfl rfl (Nat.le_of_ble_eq_true rfl) dX9_isNew_7 (w2 := (wd_X9 cI cL cS cH a v_keptMany v_done x1 x2 v_folded v_wronged v_tapeMany v_textMany v_base v_at v_ends v_fault v_opened v_bentMany v_bentWrong v_moreWorn v_planned v_allWrong v_allWorn v_z v_wishedField v_isFound v_bestWrong v_bestWorn v_bestMany v_soughtBy v_sought v_soughtAt v_foundMany v_foundOrder v_isKept v_imageRows v_imageColumns v_imageFolded v_imageWronged v_bodies v_ran v_ownKind v_ownNumber v_limit v_changeWas v_changeIs v_shapeRows v_shapeColumns v_row v_column v_below v_face v_worn v_lastBend v_tape v_text v_names v_bends v_high v_to v_pileSize v_planLine v_planWay v_way1 v_bestWay v_order1 v_placeIn v_bodyKind v_trace v_shelf v_many v_items v_carried)) rfl (fun H locs hP hD hS => ?_)
  refine lv_aload_n hx hb dX9_isNew_10 rfl (lv_at hl 0 rfl) ?_
  refine lv_iconst (v := 0) hx hb dX9_isNew_11 (by decide) ?_
  refine mm_ct6 hf (fun w_1 w_2 w_3 w_4 w_5 w_6 hc_7 hf => ?_)
  refine mm_callVF (q0 := 0) (ci := 9) (rest := []) C0 lk_X9_131 (ctX9_liesFlat (a := a) (d := d - 1) (by omega) hc_7) (by omega) rfl hl.1 rfl (mm_cat rfl) dX9_isNew_12 hP hD hA hS rfl rfl (fun H locs hP hD hS => ?_)
  refine W.eq (g2 := F0 m 15 ls []) rfl ?_
  refine lv_iconst (v := 0) hx hb dX9_isNew_15 (by decide) ?_
  refine lv_istore_n (lv' := [(3, .int (0 : Int32)), (0, .ref (a 0)), (1, .int x1), (2, .int x2)]) hx hb dX9_isNew_16 rfl hl (by decide) rfl (fun ls hl => ?_)
  exact tX9_isNew_17 hd C0 hA N  N _ _ _ _ _ _ _ _ _ _ _ _ _ H locs ls hf hP hD hS (lv_sub hl [1, 0] rfl)

theorem nb_dX9_sheet_0 : bls_w cX9_sheet [(0, [27]), (1, [155, 0, 33]), (4, [27]), (5, [16, 10]), (7, [108]), (8, [133]), (9, [10]), (10, [20, 0, 141]), (13, [184, 0, 111]), (16, [153, 0, 18]), (19, [27]), (20, [16, 10])] := bls_of (by decide +kernel)
theorem dX9_sheet_0 : decode cX9_sheet 0 = .ok (.iload_n 1, 1) := op_27 nb_dX9_sheet_0.1
set_option maxRecDepth 100000 in
theorem dX9_sheet_1 : decode cX9_sheet 1 = .ok (.ifCond .lt 33, 3) := (op_155 nb_dX9_sheet_0.2.1).trans rfl
theorem dX9_sheet_4 : decode cX9_sheet 4 = .ok (.iload_n 1, 1) := op_27 nb_dX9_sheet_0.2.2.1
set_option maxRecDepth 100000 in
theorem dX9_sheet_5 : decode cX9_sheet 5 = .ok (.bipush 10, 2) := (op_16 nb_dX9_sheet_0.2.2.2.1).trans rfl
theorem dX9_sheet_7 : decode cX9_sheet 7 = .ok (.idiv, 1) := op_108 nb_dX9_sheet_0.2.2.2.2.1
theorem dX9_sheet_8 : decode cX9_sheet 8 = .ok (.i2l, 1) := op_133 nb_dX9_sheet_0.2.2.2.2.2.1
theorem dX9_sheet_9 : decode cX9_sheet 9 = .ok (.lconst 1, 1) := op_10 nb_dX9_sheet_0.2.2.2.2.2.2.1
set_option maxRecDepth 100000 in
theorem dX9_sheet_10 : decode cX9_sheet 10 = .ok (.ldc2_w 141, 3) := (op_20 nb_dX9_sheet_0.2.2.2.2.2.2.2.1).trans rfl
set_option maxRecDepth 100000 in
theorem dX9_sheet_13 : decode cX9_sheet 13 = .ok (.invokestatic 111, 3) := (op_184 nb_dX9_sheet_0.2.2.2.2.2.2.2.2.1).trans rfl
set_option maxRecDepth 100000 in
theorem dX9_sheet_16 : decode cX9_sheet 16 = .ok (.ifCond .eq 18, 3) := (op_153 nb_dX9_sheet_0.2.2.2.2.2.2.2.2.2.1).trans rfl
theorem dX9_sheet_19 : decode cX9_sheet 19 = .ok (.iload_n 1, 1) := op_27 nb_dX9_sheet_0.2.2.2.2.2.2.2.2.2.2.1
set_option maxRecDepth 100000 in
theorem dX9_sheet_20 : decode cX9_sheet 20 = .ok (.bipush 10, 2) := (op_16 nb_dX9_sheet_0.2.2.2.2.2.2.2.2.2.2.2.1).trans rfl
theorem nb_dX9_sheet_22 : bls_w cX9_sheet [(22, [112]), (23, [133]), (24, [10]), (25, [20, 0, 143]), (28, [184, 0, 111]), (31, [154, 0, 5]), (34, [2]), (35, [172]), (36, [16, 10]), (38, [42]), (39, [180, 0, 121]), (42, [104])] := bls_of (by decide +kernel)
theorem dX9_sheet_22 : decode cX9_sheet 22 = .ok (.irem, 1) := op_112 nb_dX9_sheet_22.1
theorem dX9_sheet_23 : decode cX9_sheet 23 = .ok (.i2l, 1) := op_133 nb_dX9_sheet_22.2.1
theorem dX9_sheet_24 : decode cX9_sheet 24 = .ok (.lconst 1, 1) := op_10 nb_dX9_sheet_22.2.2.1
set_option maxRecDepth 100000 in
theorem dX9_sheet_25 : decode cX9_sheet 25 = .ok (.ldc2_w 143, 3) := (op_20 nb_dX9_sheet_22.2.2.2.1).trans rfl
set_option maxRecDepth 100000 in
theorem dX9_sheet_28 : decode cX9_sheet 28 = .ok (.invokestatic 111, 3) := (op_184 nb_dX9_sheet_22.2.2.2.2.1).trans rfl
set_option maxRecDepth 100000 in
theorem dX9_sheet_31 : decode cX9_sheet 31 = .ok (.ifCond .ne 5, 3) := (op_154 nb_dX9_sheet_22.2.2.2.2.2.1).trans rfl
theorem dX9_sheet_34 : decode cX9_sheet 34 = .ok (.iconst (-1), 1) := op_2 nb_dX9_sheet_22.2.2.2.2.2.2.1
theorem dX9_sheet_35 : decode cX9_sheet 35 = .ok (.ireturn, 1) := op_172 nb_dX9_sheet_22.2.2.2.2.2.2.2.1
set_option maxRecDepth 100000 in
theorem dX9_sheet_36 : decode cX9_sheet 36 = .ok (.bipush 10, 2) := (op_16 nb_dX9_sheet_22.2.2.2.2.2.2.2.2.1).trans rfl
theorem dX9_sheet_38 : decode cX9_sheet 38 = .ok (.aload_n 0, 1) := op_42 nb_dX9_sheet_22.2.2.2.2.2.2.2.2.2.1
set_option maxRecDepth 100000 in
theorem dX9_sheet_39 : decode cX9_sheet 39 = .ok (.getfield 121, 3) := (op_180 nb_dX9_sheet_22.2.2.2.2.2.2.2.2.2.2.1).trans rfl
theorem dX9_sheet_42 : decode cX9_sheet 42 = .ok (.imul, 1) := op_104 nb_dX9_sheet_22.2.2.2.2.2.2.2.2.2.2.2.1
theorem nb_dX9_sheet_43 : bls_w cX9_sheet [(43, [42]), (44, [180, 0, 124]), (47, [96]), (48, [61]), (49, [42]), (50, [27]), (51, [16, 10]), (53, [108]), (54, [27]), (55, [16, 10]), (57, [112]), (58, [182, 0, 105])] := bls_of (by decide +kernel)
theorem dX9_sheet_43 : decode cX9_sheet 43 = .ok (.aload_n 0, 1) := op_42 nb_dX9_sheet_43.1
set_option maxRecDepth 100000 in
theorem dX9_sheet_44 : decode cX9_sheet 44 = .ok (.getfield 124, 3) := (op_180 nb_dX9_sheet_43.2.1).trans rfl
theorem dX9_sheet_47 : decode cX9_sheet 47 = .ok (.iadd, 1) := op_96 nb_dX9_sheet_43.2.2.1
theorem dX9_sheet_48 : decode cX9_sheet 48 = .ok (.istore_n 2, 1) := op_61 nb_dX9_sheet_43.2.2.2.1
theorem dX9_sheet_49 : decode cX9_sheet 49 = .ok (.aload_n 0, 1) := op_42 nb_dX9_sheet_43.2.2.2.2.1
theorem dX9_sheet_50 : decode cX9_sheet 50 = .ok (.iload_n 1, 1) := op_27 nb_dX9_sheet_43.2.2.2.2.2.1
set_option maxRecDepth 100000 in
theorem dX9_sheet_51 : decode cX9_sheet 51 = .ok (.bipush 10, 2) := (op_16 nb_dX9_sheet_43.2.2.2.2.2.2.1).trans rfl
theorem dX9_sheet_53 : decode cX9_sheet 53 = .ok (.idiv, 1) := op_108 nb_dX9_sheet_43.2.2.2.2.2.2.2.1
theorem dX9_sheet_54 : decode cX9_sheet 54 = .ok (.iload_n 1, 1) := op_27 nb_dX9_sheet_43.2.2.2.2.2.2.2.2.1
set_option maxRecDepth 100000 in
theorem dX9_sheet_55 : decode cX9_sheet 55 = .ok (.bipush 10, 2) := (op_16 nb_dX9_sheet_43.2.2.2.2.2.2.2.2.2.1).trans rfl
theorem dX9_sheet_57 : decode cX9_sheet 57 = .ok (.irem, 1) := op_112 nb_dX9_sheet_43.2.2.2.2.2.2.2.2.2.2.1
set_option maxRecDepth 100000 in
theorem dX9_sheet_58 : decode cX9_sheet 58 = .ok (.invokevirtual 105, 3) := (op_182 nb_dX9_sheet_43.2.2.2.2.2.2.2.2.2.2.2.1).trans rfl
theorem nb_dX9_sheet_61 : bls_w cX9_sheet [(61, [28]), (62, [172])] := bls_of (by decide +kernel)
theorem dX9_sheet_61 : decode cX9_sheet 61 = .ok (.iload_n 2, 1) := op_28 nb_dX9_sheet_61.1
theorem dX9_sheet_62 : decode cX9_sheet 62 = .ok (.ireturn, 1) := op_172 nb_dX9_sheet_61.2.1
def fX9_sheet (N : Nat) (x1 : Int32) (v_rowsOf : Int32) (v_columnsOf : Int32) (v_folded : Int32) (v_wronged : Int32) (v_shapeRows : List Int32) (v_shapeColumns : List Int32) (v_row : List Int32) (v_column : List Int32) (v_below : List Int32) (v_face : List Int32) (v_worn : List Int32) (v_lastBend : List Int32) : Option (Int32 × Int32 × Int32 × Int32 × Int32 × List Int32 × List Int32 × List Int32 × List Int32 × List Int32 × List Int32 × List Int32 × List Int32) :=
    if x1 < 0 then
    (some ((-1 : Int32), v_rowsOf, v_columnsOf, v_folded, v_wronged, v_shapeRows, v_shapeColumns, v_row, v_column, v_below, v_face, v_worn, v_lastBend))
    else (mm_ck (mm_nz (10 : Int32)) (mm_bd1 (fX9_within N ((x1 / (10 : Int32)).toInt64) (1 : Int64) (4 : Int64)) (fun (r_3 : Bool) =>
    if r_3 = false then
    (some ((-1 : Int32), v_rowsOf, v_columnsOf, v_folded, v_wronged, v_shapeRows, v_shapeColumns, v_row, v_column, v_below, v_face, v_worn, v_lastBend))
    else (mm_ck (mm_nz (10 : Int32)) (mm_bd1 (fX9_within N ((mm_rem x1 (10 : Int32)).toInt64) (1 : Int64) (8 : Int64)) (fun (r_7 : Bool) =>
    if r_7 = false then
    (some ((-1 : Int32), v_rowsOf, v_columnsOf, v_folded, v_wronged, v_shapeRows, v_shapeColumns, v_row, v_column, v_below, v_face, v_worn, v_lastBend))
    else (mm_nm ((((10 : Int32) * v_rowsOf) + v_columnsOf)) (fun (y_10 : Int32) =>
    mm_ck (mm_nz (10 : Int32)) (mm_ck (mm_nz (10 : Int32)) (mm_bd12 (fX9_isNew N (x1 / (10 : Int32)) (mm_rem x1 (10 : Int32)) v_rowsOf v_columnsOf v_folded v_wronged v_shapeRows v_shapeColumns v_row v_column v_below v_face v_worn v_lastBend) (fun (w_13 : Int32) (w_14 : Int32) (w_15 : Int32) (w_16 : Int32) (w_17 : List Int32) (w_18 : List Int32) (w_19 : List Int32) (w_20 : List Int32) (w_21 : List Int32) (w_22 : List Int32) (w_23 : List Int32) (w_24 : List Int32) =>
    some (y_10, w_13, w_14, w_15, w_16, w_17, w_18, w_19, w_20, w_21, w_22, w_23, w_24))))))))))))

set_option maxHeartbeats 4000000 in
set_option maxRecDepth 100000 in
theorem ctX9_sheet {l : Launch} {D : va_G} {cI cL cS cH : ClassId} {a : Nat → Nat} {x1 : Int32} {v_keptMany : Int32} {v_done : Int32} {v_rowsOf : Int32} {v_columnsOf : Int32} {v_folded : Int32} {v_wronged : Int32} {v_tapeMany : Int32} {v_textMany : Int32} {v_base : Int32} {v_at : Int32} {v_ends : Int32} {v_fault : Int32} {v_opened : Int32} {v_bentMany : Int32} {v_bentWrong : Int32} {v_moreWorn : Int32} {v_planned : Int32} {v_allWrong : Int32} {v_allWorn : Int32} {v_z : Int32} {v_wishedField : Int32} {v_isFound : Bool} {v_bestWrong : Int32} {v_bestWorn : Int32} {v_bestMany : Int32} {v_soughtBy : Int32} {v_sought : Int32} {v_soughtAt : Int32} {v_foundMany : Int32} {v_foundOrder : Int32} {v_isKept : Bool} {v_imageRows : Int32} {v_imageColumns : Int32} {v_imageFolded : Int32} {v_imageWronged : Int32} {v_bodies : Int32} {v_ran : Int32} {v_ownKind : Int32} {v_ownNumber : Int32} {v_limit : List Int32} {v_changeWas : List Int32} {v_changeIs : List Int32} {v_shapeRows : List Int32} {v_shapeColumns : List Int32} {v_row : List Int32} {v_column : List Int32} {v_below : List Int32} {v_face : List Int32} {v_worn : List Int32} {v_lastBend : List Int32} {v_tape : List Int32} {v_text : List Int32} {v_names : List Int32} {v_bends : List Int32} {v_high : List Int32} {v_to : List Int32} {v_pileSize : List Int32} {v_planLine : List Int32} {v_planWay : List Int32} {v_way1 : List Int32} {v_bestWay : List Int32} {v_order1 : List Int32} {v_placeIn : List Int32} {v_bodyKind : List Int32} {v_trace : List Int32} {v_shelf : List Int32} {v_many : List Int32} {v_items : List Int64} {v_carried : List Int64} {r : Int32} {w_rowsOf : Int32} {w_columnsOf : Int32} {w_folded : Int32} {w_wronged : Int32} {w_shapeRows : List Int32} {w_shapeColumns : List Int32} {w_row : List Int32} {w_column : List Int32} {w_below : List Int32} {w_face : List Int32} {w_worn : List Int32} {w_lastBend : List Int32} {N d : Nat} (hd : 4 ≤ d) (hf : fX9_sheet N x1 v_rowsOf v_columnsOf v_folded v_wronged v_shapeRows v_shapeColumns v_row v_column v_below v_face v_worn v_lastBend = some (r, w_rowsOf, w_columnsOf, w_folded, w_wronged, w_shapeRows, w_shapeColumns, w_row, w_column, w_below, w_face, w_worn, w_lastBend)) : mm_Ct l yX9_sheet cX9_sheet 3 (some .int) d D (mm_T cI cL cS cH) [.ref (a 0), .int x1] (wd_X9 cI cL cS cH a v_keptMany v_done v_rowsOf v_columnsOf v_folded v_wronged v_tapeMany v_textMany v_base v_at v_ends v_fault v_opened v_bentMany v_bentWrong v_moreWorn v_planned v_allWrong v_allWorn v_z v_wishedField v_isFound v_bestWrong v_bestWorn v_bestMany v_soughtBy v_sought v_soughtAt v_foundMany v_foundOrder v_isKept v_imageRows v_imageColumns v_imageFolded v_imageWronged v_bodies v_ran v_ownKind v_ownNumber v_limit v_changeWas v_changeIs v_shapeRows v_shapeColumns v_row v_column v_below v_face v_worn v_lastBend v_tape v_text v_names v_bends v_high v_to v_pileSize v_planLine v_planWay v_way1 v_bestWay v_order1 v_placeIn v_bodyKind v_trace v_shelf v_many v_items v_carried) (wd_X9 cI cL cS cH a v_keptMany v_done w_rowsOf w_columnsOf w_folded w_wronged v_tapeMany v_textMany v_base v_at v_ends v_fault v_opened v_bentMany v_bentWrong v_moreWorn v_planned v_allWrong v_allWorn v_z v_wishedField v_isFound v_bestWrong v_bestWorn v_bestMany v_soughtBy v_sought v_soughtAt v_foundMany v_foundOrder v_isKept v_imageRows v_imageColumns v_imageFolded v_imageWronged v_bodies v_ran v_ownKind v_ownNumber v_limit v_changeWas v_changeIs w_shapeRows w_shapeColumns w_row w_column w_below w_face w_worn w_lastBend v_tape v_text v_names v_bends v_high v_to v_pileSize v_planLine v_planWay v_way1 v_bestWay v_order1 v_placeIn v_bodyKind v_trace v_shelf v_many v_items v_carried) (some (.int r)) := by
  refine mm_of (by decide) (Nat.le_of_ble_eq_true rfl) ?_
  intro p e s m args below meth c A H locs ls C0 hP hD hA hS hl
  have C0 : mm_Cx p s m args meth c RX9 cX9_sheet 3 (some .int) D (mm_T cI cL cS cH) A := C0
  obtain ⟨hx, hb, hml, hown, hts, hr, hlocks, hK, hSt⟩ := id C0
  have hl : lv_has ls 3 [(0, .ref (a 0)), (1, .int x1)] := hl
  unfold fX9_sheet at hf
  refine lv_iload_n hx hb dX9_sheet_0 rfl (lv_at hl 1 rfl) ?_
  refine lv_if_lt (tgt := 34) hx hb dX9_sheet_1 (by decide) (fun c_1 => ?_) (fun c_1 => ?_)
  · have hf := mm_ip hf c_1
    refine lv_iconst (v := -1) hx hb dX9_sheet_34 (by decide) ?_
    apply mm_sub13 hf
    exact mm_iret C0 hP hD hS dX9_sheet_35
  · have hf := mm_in hf c_1
    refine lv_iload_n hx hb dX9_sheet_4 rfl (lv_at hl 1 rfl) ?_
    refine lv_bipush (v := 10) hx hb dX9_sheet_5 (by decide) ?_
    obtain ⟨h_2, hf⟩ := mm_cks hf
    refine lv_idiv hx hb dX9_sheet_7 (mm_nzs h_2) ?_
    refine lv_i2l hx hb dX9_sheet_8 rfl ?_
    refine lv_lconst (v := 1) hx hb dX9_sheet_9 (by decide) ?_
    refine lv_ldc2 hx hb hown (hts _ kc_X9_141) dX9_sheet_10 ?_
    obtain ⟨r_3, hc_4, hf⟩ := mm_bd1s hf
    refine mm_callS0 (rest := []) C0 lk_X9_111 (ctX9_within (d := d - 1) (by omega) hc_4) (by omega) rfl hl.1 rfl (mm_cat rfl) dX9_sheet_13 hP hD hA hS (fun H locs hP hS => ?_)
    refine W.eq (g2 := F0 m 16 ls [.int (mm_b r_3)]) rfl ?_
    refine lv_if_eq (tgt := 34) hx hb dX9_sheet_16 (by decide) (fun c_5 => ?_) (fun c_5 => ?_)
    · have hf := mm_ip hf (mm_b0 c_5)
      refine lv_iconst (v := -1) hx hb dX9_sheet_34 (by decide) ?_
      apply mm_sub13 hf
      exact mm_iret C0 hP hD hS dX9_sheet_35
    · have hf := mm_in hf (mm_b1 c_5)
      refine lv_iload_n hx hb dX9_sheet_19 rfl (lv_at hl 1 rfl) ?_
      refine lv_bipush (v := 10) hx hb dX9_sheet_20 (by decide) ?_
      obtain ⟨h_6, hf⟩ := mm_cks hf
      refine lv_irem hx hb dX9_sheet_22 (mm_nzs h_6) ?_
      refine lv_i2l hx hb dX9_sheet_23 rfl ?_
      refine lv_lconst (v := 1) hx hb dX9_sheet_24 (by decide) ?_
      refine lv_ldc2 hx hb hown (hts _ kc_X9_143) dX9_sheet_25 ?_
      obtain ⟨r_7, hc_8, hf⟩ := mm_bd1s hf
      refine mm_callS0 (rest := []) C0 lk_X9_111 (ctX9_within (d := d - 1) (by omega) hc_8) (by omega) rfl hl.1 rfl (mm_cat rfl) dX9_sheet_28 hP hD hA hS (fun H locs hP hS => ?_)
      refine W.eq (g2 := F0 m 31 ls [.int (mm_b r_7)]) rfl ?_
      refine lv_if_ne (tgt := 36) hx hb dX9_sheet_31 (by decide) (fun c_9 => ?_) (fun c_9 => ?_)
      · have hf := mm_in hf (mm_b1 c_9)
        refine lv_bipush (v := 10) hx hb dX9_sheet_36 (by decide) ?_
        refine lv_aload_n hx hb dX9_sheet_38 rfl (lv_at hl 0 rfl) ?_
        refine mm_get C0 hP iw_X9 0 rfl rfl 5 (by decide) fl_X9_121 rfl dX9_sheet_39 ?_
        refine lv_imul hx hb dX9_sheet_42 ?_
        refine lv_aload_n hx hb dX9_sheet_43 rfl (lv_at hl 0 rfl) ?_
        refine mm_get C0 hP iw_X9 0 rfl rfl 6 (by decide) fl_X9_124 rfl dX9_sheet_44 ?_
        refine lv_iadd hx hb dX9_sheet_47 ?_
        refine lv_topi (fun y_10 ey_10 => ?_)
        have hf := mm_nms hf ey_10
        refine lv_istore_n (lv' := [(2, .int y_10), (0, .ref (a 0)), (1, .int x1)]) hx hb dX9_sheet_48 rfl hl (by decide) rfl (fun ls hl => ?_)
        refine lv_aload_n hx hb dX9_sheet_49 rfl (lv_at hl 1 rfl) ?_
        refine lv_iload_n hx hb dX9_sheet_50 rfl (lv_at hl 2 rfl) ?_
        refine lv_bipush (v := 10) hx hb dX9_sheet_51 (by decide) ?_
        obtain ⟨h_11, hf⟩ := mm_cks hf
        refine lv_idiv hx hb dX9_sheet_53 (mm_nzs h_11) ?_
        refine lv_iload_n hx hb dX9_sheet_54 rfl (lv_at hl 2 rfl) ?_
        refine lv_bipush (v := 10) hx hb dX9_sheet_55 (by decide) ?_
        obtain ⟨h_12, hf⟩ := mm_cks hf
        refine lv_irem hx hb dX9_sheet_57 (mm_nzs h_12) ?_
        refine mm_ct12 hf (fun w_13 w_14 w_15 w_16 w_17 w_18 w_19 w_20 w_21 w_22 w_23 w_24 hc_25 hf => ?_)
        refine mm_callVF (q0 := 0) (ci := 9) (rest := []) C0 lk_X9_105 (ctX9_isNew (a := a) (d := d - 1) (by omega) hc_25) (by omega) rfl hl.1 rfl (mm_cat rfl) dX9_sheet_58 hP hD hA hS rfl rfl (fun H locs hP hD hS => ?_)
        refine W.eq (g2 := F0 m 61 ls []) rfl ?_
        refine lv_iload_n hx hb dX9_sheet_61 rfl (lv_at hl 0 rfl) ?_
        apply mm_sub13 hf
        exact mm_iret C0 hP hD hS dX9_sheet_62
      · have hf := mm_ip hf (mm_b0 c_9)
        refine lv_iconst (v := -1) hx hb dX9_sheet_34 (by decide) ?_
        apply mm_sub13 hf
        exact mm_iret C0 hP hD hS dX9_sheet_35

theorem nb_dX9_isCrease_0 : bls_w cX9_isCrease [(0, [27]), (1, [5]), (2, [108]), (3, [61]), (4, [28]), (5, [133]), (6, [9]), (7, [42]), (8, [182, 0, 127]), (11, [4]), (12, [100]), (13, [133])] := bls_of (by decide +kernel)
theorem dX9_isCrease_0 : decode cX9_isCrease 0 = .ok (.iload_n 1, 1) := op_27 nb_dX9_isCrease_0.1
theorem dX9_isCrease_1 : decode cX9_isCrease 1 = .ok (.iconst 2, 1) := op_5 nb_dX9_isCrease_0.2.1
theorem dX9_isCrease_2 : decode cX9_isCrease 2 = .ok (.idiv, 1) := op_108 nb_dX9_isCrease_0.2.2.1
theorem dX9_isCrease_3 : decode cX9_isCrease 3 = .ok (.istore_n 2, 1) := op_61 nb_dX9_isCrease_0.2.2.2.1
theorem dX9_isCrease_4 : decode cX9_isCrease 4 = .ok (.iload_n 2, 1) := op_28 nb_dX9_isCrease_0.2.2.2.2.1
theorem dX9_isCrease_5 : decode cX9_isCrease 5 = .ok (.i2l, 1) := op_133 nb_dX9_isCrease_0.2.2.2.2.2.1
theorem dX9_isCrease_6 : decode cX9_isCrease 6 = .ok (.lconst 0, 1) := op_9 nb_dX9_isCrease_0.2.2.2.2.2.2.1
theorem dX9_isCrease_7 : decode cX9_isCrease 7 = .ok (.aload_n 0, 1) := op_42 nb_dX9_isCrease_0.2.2.2.2.2.2.2.1
set_option maxRecDepth 100000 in
theorem dX9_isCrease_8 : decode cX9_isCrease 8 = .ok (.invokevirtual 127, 3) := (op_182 nb_dX9_isCrease_0.2.2.2.2.2.2.2.2.1).trans rfl
theorem dX9_isCrease_11 : decode cX9_isCrease 11 = .ok (.iconst 1, 1) := op_4 nb_dX9_isCrease_0.2.2.2.2.2.2.2.2.2.1
theorem dX9_isCrease_12 : decode cX9_isCrease 12 = .ok (.isub, 1) := op_100 nb_dX9_isCrease_0.2.2.2.2.2.2.2.2.2.2.1
theorem dX9_isCrease_13 : decode cX9_isCrease 13 = .ok (.i2l, 1) := op_133 nb_dX9_isCrease_0.2.2.2.2.2.2.2.2.2.2.2.1
theorem nb_dX9_isCrease_14 : bls_w cX9_isCrease [(14, [184, 0, 111]), (17, [154, 0, 5]), (20, [3]), (21, [172]), (22, [27]), (23, [5]), (24, [112]), (25, [154, 0, 26]), (28, [28]), (29, [42]), (30, [180, 0, 124]), (33, [112])] := bls_of (by decide +kernel)
set_option maxRecDepth 100000 in
theorem dX9_isCrease_14 : decode cX9_isCrease 14 = .ok (.invokestatic 111, 3) := (op_184 nb_dX9_isCrease_14.1).trans rfl
set_option maxRecDepth 100000 in
theorem dX9_isCrease_17 : decode cX9_isCrease 17 = .ok (.ifCond .ne 5, 3) := (op_154 nb_dX9_isCrease_14.2.1).trans rfl
theorem dX9_isCrease_20 : decode cX9_isCrease 20 = .ok (.iconst 0, 1) := op_3 nb_dX9_isCrease_14.2.2.1
theorem dX9_isCrease_21 : decode cX9_isCrease 21 = .ok (.ireturn, 1) := op_172 nb_dX9_isCrease_14.2.2.2.1
theorem dX9_isCrease_22 : decode cX9_isCrease 22 = .ok (.iload_n 1, 1) := op_27 nb_dX9_isCrease_14.2.2.2.2.1
theorem dX9_isCrease_23 : decode cX9_isCrease 23 = .ok (.iconst 2, 1) := op_5 nb_dX9_isCrease_14.2.2.2.2.2.1
theorem dX9_isCrease_24 : decode cX9_isCrease 24 = .ok (.irem, 1) := op_112 nb_dX9_isCrease_14.2.2.2.2.2.2.1
set_option maxRecDepth 100000 in
theorem dX9_isCrease_25 : decode cX9_isCrease 25 = .ok (.ifCond .ne 26, 3) := (op_154 nb_dX9_isCrease_14.2.2.2.2.2.2.2.1).trans rfl
theorem dX9_isCrease_28 : decode cX9_isCrease 28 = .ok (.iload_n 2, 1) := op_28 nb_dX9_isCrease_14.2.2.2.2.2.2.2.2.1
theorem dX9_isCrease_29 : decode cX9_isCrease 29 = .ok (.aload_n 0, 1) := op_42 nb_dX9_isCrease_14.2.2.2.2.2.2.2.2.2.1
set_option maxRecDepth 100000 in
theorem dX9_isCrease_30 : decode cX9_isCrease 30 = .ok (.getfield 124, 3) := (op_180 nb_dX9_isCrease_14.2.2.2.2.2.2.2.2.2.2.1).trans rfl
theorem dX9_isCrease_33 : decode cX9_isCrease 33 = .ok (.irem, 1) := op_112 nb_dX9_isCrease_14.2.2.2.2.2.2.2.2.2.2.2.1
theorem nb_dX9_isCrease_34 : bls_w cX9_isCrease [(34, [42]), (35, [180, 0, 124]), (38, [4]), (39, [100]), (40, [162, 0, 7]), (43, [4]), (44, [167, 0, 27]), (47, [3]), (48, [167, 0, 23]), (51, [28]), (52, [42]), (53, [180, 0, 124])] := bls_of (by decide +kernel)
theorem dX9_isCrease_34 : decode cX9_isCrease 34 = .ok (.aload_n 0, 1) := op_42 nb_dX9_isCrease_34.1
set_option maxRecDepth 100000 in
theorem dX9_isCrease_35 : decode cX9_isCrease 35 = .ok (.getfield 124, 3) := (op_180 nb_dX9_isCrease_34.2.1).trans rfl
theorem dX9_isCrease_38 : decode cX9_isCrease 38 = .ok (.iconst 1, 1) := op_4 nb_dX9_isCrease_34.2.2.1
theorem dX9_isCrease_39 : decode cX9_isCrease 39 = .ok (.isub, 1) := op_100 nb_dX9_isCrease_34.2.2.2.1
set_option maxRecDepth 100000 in
theorem dX9_isCrease_40 : decode cX9_isCrease 40 = .ok (.if_icmp .ge 7, 3) := (op_162 nb_dX9_isCrease_34.2.2.2.2.1).trans rfl
theorem dX9_isCrease_43 : decode cX9_isCrease 43 = .ok (.iconst 1, 1) := op_4 nb_dX9_isCrease_34.2.2.2.2.2.1
set_option maxRecDepth 100000 in
theorem dX9_isCrease_44 : decode cX9_isCrease 44 = .ok (.goto 27, 3) := (op_167 nb_dX9_isCrease_34.2.2.2.2.2.2.1).trans rfl
theorem dX9_isCrease_47 : decode cX9_isCrease 47 = .ok (.iconst 0, 1) := op_3 nb_dX9_isCrease_34.2.2.2.2.2.2.2.1
set_option maxRecDepth 100000 in
theorem dX9_isCrease_48 : decode cX9_isCrease 48 = .ok (.goto 23, 3) := (op_167 nb_dX9_isCrease_34.2.2.2.2.2.2.2.2.1).trans rfl
theorem dX9_isCrease_51 : decode cX9_isCrease 51 = .ok (.iload_n 2, 1) := op_28 nb_dX9_isCrease_34.2.2.2.2.2.2.2.2.2.1
theorem dX9_isCrease_52 : decode cX9_isCrease 52 = .ok (.aload_n 0, 1) := op_42 nb_dX9_isCrease_34.2.2.2.2.2.2.2.2.2.2.1
set_option maxRecDepth 100000 in
theorem dX9_isCrease_53 : decode cX9_isCrease 53 = .ok (.getfield 124, 3) := (op_180 nb_dX9_isCrease_34.2.2.2.2.2.2.2.2.2.2.2.1).trans rfl
theorem nb_dX9_isCrease_56 : bls_w cX9_isCrease [(56, [108]), (57, [42]), (58, [180, 0, 121]), (61, [4]), (62, [100]), (63, [162, 0, 7]), (66, [4]), (67, [167, 0, 4]), (70, [3]), (71, [172])] := bls_of (by decide +kernel)
theorem dX9_isCrease_56 : decode cX9_isCrease 56 = .ok (.idiv, 1) := op_108 nb_dX9_isCrease_56.1
theorem dX9_isCrease_57 : decode cX9_isCrease 57 = .ok (.aload_n 0, 1) := op_42 nb_dX9_isCrease_56.2.1
set_option maxRecDepth 100000 in
theorem dX9_isCrease_58 : decode cX9_isCrease 58 = .ok (.getfield 121, 3) := (op_180 nb_dX9_isCrease_56.2.2.1).trans rfl
theorem dX9_isCrease_61 : decode cX9_isCrease 61 = .ok (.iconst 1, 1) := op_4 nb_dX9_isCrease_56.2.2.2.1
theorem dX9_isCrease_62 : decode cX9_isCrease 62 = .ok (.isub, 1) := op_100 nb_dX9_isCrease_56.2.2.2.2.1
set_option maxRecDepth 100000 in
theorem dX9_isCrease_63 : decode cX9_isCrease 63 = .ok (.if_icmp .ge 7, 3) := (op_162 nb_dX9_isCrease_56.2.2.2.2.2.1).trans rfl
theorem dX9_isCrease_66 : decode cX9_isCrease 66 = .ok (.iconst 1, 1) := op_4 nb_dX9_isCrease_56.2.2.2.2.2.2.1
set_option maxRecDepth 100000 in
theorem dX9_isCrease_67 : decode cX9_isCrease 67 = .ok (.goto 4, 3) := (op_167 nb_dX9_isCrease_56.2.2.2.2.2.2.2.1).trans rfl
theorem dX9_isCrease_70 : decode cX9_isCrease 70 = .ok (.iconst 0, 1) := op_3 nb_dX9_isCrease_56.2.2.2.2.2.2.2.2.1
theorem dX9_isCrease_71 : decode cX9_isCrease 71 = .ok (.ireturn, 1) := op_172 nb_dX9_isCrease_56.2.2.2.2.2.2.2.2.2.1
def fX9_isCrease (N : Nat) (x1 : Int32) (v_rowsOf : Int32) (v_columnsOf : Int32) : Option (Bool) :=
    mm_ck (mm_nz (2 : Int32)) (mm_nm ((x1 / (2 : Int32))) (fun (y_2 : Int32) =>
    mm_bd1 (fX9_fields N v_rowsOf v_columnsOf) (fun (r_3 : Int32) =>
    mm_bd1 (fX9_within N ((y_2).toInt64) (0 : Int64) ((r_3 - (1 : Int32)).toInt64)) (fun (r_5 : Bool) =>
    if r_5 = false then
    (some (false))
    else (mm_ck (mm_nz (2 : Int32)) (if (mm_rem x1 (2 : Int32)) = 0 then
    (mm_ck (mm_nz v_columnsOf) (if (v_columnsOf - (1 : Int32)) ≤ (mm_rem y_2 v_columnsOf) then
    (some (false))
    else (some (true))))
    else (mm_ck (mm_nz v_columnsOf) (if (v_rowsOf - (1 : Int32)) ≤ (y_2 / v_columnsOf) then
    (some (false))
    else (some (true))))))))))

set_option maxHeartbeats 4000000 in
set_option maxRecDepth 100000 in
theorem ctX9_isCrease {l : Launch} {D : va_G} {cI cL cS cH : ClassId} {a : Nat → Nat} {x1 : Int32} {v_keptMany : Int32} {v_done : Int32} {v_rowsOf : Int32} {v_columnsOf : Int32} {v_folded : Int32} {v_wronged : Int32} {v_tapeMany : Int32} {v_textMany : Int32} {v_base : Int32} {v_at : Int32} {v_ends : Int32} {v_fault : Int32} {v_opened : Int32} {v_bentMany : Int32} {v_bentWrong : Int32} {v_moreWorn : Int32} {v_planned : Int32} {v_allWrong : Int32} {v_allWorn : Int32} {v_z : Int32} {v_wishedField : Int32} {v_isFound : Bool} {v_bestWrong : Int32} {v_bestWorn : Int32} {v_bestMany : Int32} {v_soughtBy : Int32} {v_sought : Int32} {v_soughtAt : Int32} {v_foundMany : Int32} {v_foundOrder : Int32} {v_isKept : Bool} {v_imageRows : Int32} {v_imageColumns : Int32} {v_imageFolded : Int32} {v_imageWronged : Int32} {v_bodies : Int32} {v_ran : Int32} {v_ownKind : Int32} {v_ownNumber : Int32} {v_limit : List Int32} {v_changeWas : List Int32} {v_changeIs : List Int32} {v_shapeRows : List Int32} {v_shapeColumns : List Int32} {v_row : List Int32} {v_column : List Int32} {v_below : List Int32} {v_face : List Int32} {v_worn : List Int32} {v_lastBend : List Int32} {v_tape : List Int32} {v_text : List Int32} {v_names : List Int32} {v_bends : List Int32} {v_high : List Int32} {v_to : List Int32} {v_pileSize : List Int32} {v_planLine : List Int32} {v_planWay : List Int32} {v_way1 : List Int32} {v_bestWay : List Int32} {v_order1 : List Int32} {v_placeIn : List Int32} {v_bodyKind : List Int32} {v_trace : List Int32} {v_shelf : List Int32} {v_many : List Int32} {v_items : List Int64} {v_carried : List Int64} {r : Bool} {N d : Nat} (hd : 2 ≤ d) (hf : fX9_isCrease N x1 v_rowsOf v_columnsOf = some r) : mm_Ct l yX9_isCrease cX9_isCrease 3 (some .boolean) d D (mm_T cI cL cS cH) [.ref (a 0), .int x1] (wd_X9 cI cL cS cH a v_keptMany v_done v_rowsOf v_columnsOf v_folded v_wronged v_tapeMany v_textMany v_base v_at v_ends v_fault v_opened v_bentMany v_bentWrong v_moreWorn v_planned v_allWrong v_allWorn v_z v_wishedField v_isFound v_bestWrong v_bestWorn v_bestMany v_soughtBy v_sought v_soughtAt v_foundMany v_foundOrder v_isKept v_imageRows v_imageColumns v_imageFolded v_imageWronged v_bodies v_ran v_ownKind v_ownNumber v_limit v_changeWas v_changeIs v_shapeRows v_shapeColumns v_row v_column v_below v_face v_worn v_lastBend v_tape v_text v_names v_bends v_high v_to v_pileSize v_planLine v_planWay v_way1 v_bestWay v_order1 v_placeIn v_bodyKind v_trace v_shelf v_many v_items v_carried) (wd_X9 cI cL cS cH a v_keptMany v_done v_rowsOf v_columnsOf v_folded v_wronged v_tapeMany v_textMany v_base v_at v_ends v_fault v_opened v_bentMany v_bentWrong v_moreWorn v_planned v_allWrong v_allWorn v_z v_wishedField v_isFound v_bestWrong v_bestWorn v_bestMany v_soughtBy v_sought v_soughtAt v_foundMany v_foundOrder v_isKept v_imageRows v_imageColumns v_imageFolded v_imageWronged v_bodies v_ran v_ownKind v_ownNumber v_limit v_changeWas v_changeIs v_shapeRows v_shapeColumns v_row v_column v_below v_face v_worn v_lastBend v_tape v_text v_names v_bends v_high v_to v_pileSize v_planLine v_planWay v_way1 v_bestWay v_order1 v_placeIn v_bodyKind v_trace v_shelf v_many v_items v_carried) (some (.int (mm_b r))) := by
  refine mm_of (by decide) (Nat.le_of_ble_eq_true rfl) ?_
  intro p e s m args below meth c A H locs ls C0 hP hD hA hS hl
  have C0 : mm_Cx p s m args meth c RX9 cX9_isCrease 3 (some .boolean) D (mm_T cI cL cS cH) A := C0
  obtain ⟨hx, hb, hml, hown, hts, hr, hlocks, hK, hSt⟩ := id C0
  have hl : lv_has ls 3 [(0, .ref (a 0)), (1, .int x1)] := hl
  unfold fX9_isCrease at hf
  refine lv_iload_n hx hb dX9_isCrease_0 rfl (lv_at hl 1 rfl) ?_
  refine lv_iconst (v := 2) hx hb dX9_isCrease_1 (by decide) ?_
  obtain ⟨h_1, hf⟩ := mm_cks hf
  refine lv_idiv hx hb dX9_isCrease_2 (mm_nzs h_1) ?_
  refine lv_topi (fun y_2 ey_2 => ?_)
  have hf := mm_nms hf ey_2
  refine lv_istore_n (lv' := [(2, .int y_2), (0, .ref (a 0)), (1, .int x1)]) hx hb dX9_isCrease_3 rfl hl (by decide) rfl (fun ls hl => ?_)
  refine lv_iload_n hx hb dX9_isCrease_4 rfl (lv_at hl 0 rfl) ?_
  refine lv_i2l hx hb dX9_isCrease_5 rfl ?_
  refine lv_lconst (v := 0) hx hb dX9_isCrease_6 (by decide) ?_
  refine lv_aload_n hx hb dX9_isCrease_7 rfl (lv_at hl 1 rfl) ?_
  obtain ⟨r_3, hc_4, hf⟩ := mm_bd1s hf
  refine mm_callVF (q0 := 0) (ci := 9) (rest := [.long (0 : Int64), .long ((y_2).toInt64)]) C0 lk_X9_127 (ctX9_fields (a := a) (d := d - 1) (by omega) hc_4) (by omega) rfl hl.1 rfl (mm_cat rfl) dX9_isCrease_8 hP hD hA hS rfl rfl (fun H locs hP hD hS => ?_)
  refine W.eq (g2 := F0 m 11 ls [.int r_3, .long (0 : Int64), .long ((y_2).toInt64)]) rfl ?_
  refine lv_iconst (v := 1) hx hb dX9_isCrease_11 (by decide) ?_
  refine lv_isub hx hb dX9_isCrease_12 ?_
  refine lv_i2l hx hb dX9_isCrease_13 rfl ?_
  obtain ⟨r_5, hc_6, hf⟩ := mm_bd1s hf
  refine mm_callS0 (rest := []) C0 lk_X9_111 (ctX9_within (d := d - 1) (by omega) hc_6) (by omega) rfl hl.1 rfl (mm_cat rfl) dX9_isCrease_14 hP hD hA hS (fun H locs hP hS => ?_)
  refine W.eq (g2 := F0 m 17 ls [.int (mm_b r_5)]) rfl ?_
  refine lv_if_ne (tgt := 22) hx hb dX9_isCrease_17 (by decide) (fun c_7 => ?_) (fun c_7 => ?_)
  · have hf := mm_in hf (mm_b1 c_7)
    refine lv_iload_n hx hb dX9_isCrease_22 rfl (lv_at hl 2 rfl) ?_
    refine lv_iconst (v := 2) hx hb dX9_isCrease_23 (by decide) ?_
    obtain ⟨h_8, hf⟩ := mm_cks hf
    refine lv_irem hx hb dX9_isCrease_24 (mm_nzs h_8) ?_
    refine lv_if_ne (tgt := 51) hx hb dX9_isCrease_25 (by decide) (fun c_9 => ?_) (fun c_9 => ?_)
    · have hf := mm_in hf c_9
      refine lv_iload_n hx hb dX9_isCrease_51 rfl (lv_at hl 0 rfl) ?_
      refine lv_aload_n hx hb dX9_isCrease_52 rfl (lv_at hl 1 rfl) ?_
      refine mm_get C0 hP iw_X9 0 rfl rfl 6 (by decide) fl_X9_124 rfl dX9_isCrease_53 ?_
      obtain ⟨h_10, hf⟩ := mm_cks hf
      refine lv_idiv hx hb dX9_isCrease_56 (mm_nzs h_10) ?_
      refine lv_aload_n hx hb dX9_isCrease_57 rfl (lv_at hl 1 rfl) ?_
      refine mm_get C0 hP iw_X9 0 rfl rfl 5 (by decide) fl_X9_121 rfl dX9_isCrease_58 ?_
      refine lv_iconst (v := 1) hx hb dX9_isCrease_61 (by decide) ?_
      refine lv_isub hx hb dX9_isCrease_62 ?_
      refine lv_icmp_ge (tgt := 70) hx hb dX9_isCrease_63 (by decide) (fun c_11 => ?_) (fun c_11 => ?_)
      · have hf := mm_ip hf c_11
        refine lv_iconst (v := 0) hx hb dX9_isCrease_70 (by decide) ?_
        obtain rfl := mm_inj1 hf
        exact mm_zret (v := false) C0 hP hD hS dX9_isCrease_71 (by decide)
      · have hf := mm_in hf c_11
        refine lv_iconst (v := 1) hx hb dX9_isCrease_66 (by decide) ?_
        refine lv_goto (tgt := 71) hx hb dX9_isCrease_67 (by decide) ?_
        obtain rfl := mm_inj1 hf
        exact mm_zret (v := true) C0 hP hD hS dX9_isCrease_71 (by decide)
    · have hf := mm_ip hf c_9
      refine lv_iload_n hx hb dX9_isCrease_28 rfl (lv_at hl 0 rfl) ?_
      refine lv_aload_n hx hb dX9_isCrease_29 rfl (lv_at hl 1 rfl) ?_
      refine mm_get C0 hP iw_X9 0 rfl rfl 6 (by decide) fl_X9_124 rfl dX9_isCrease_30 ?_
      obtain ⟨h_12, hf⟩ := mm_cks hf
      refine lv_irem hx hb dX9_isCrease_33 (mm_nzs h_12) ?_
      refine lv_aload_n hx hb dX9_isCrease_34 rfl (lv_at hl 1 rfl) ?_
      refine mm_get C0 hP iw_X9 0 rfl rfl 6 (by decide) fl_X9_124 rfl dX9_isCrease_35 ?_
      refine lv_iconst (v := 1) hx hb dX9_isCrease_38 (by decide) ?_
      refine lv_isub hx hb dX9_isCrease_39 ?_
      refine lv_icmp_ge (tgt := 47) hx hb dX9_isCrease_40 (by decide) (fun c_13 => ?_) (fun c_13 => ?_)
      · have hf := mm_ip hf c_13
        refine lv_iconst (v := 0) hx hb dX9_isCrease_47 (by decide) ?_
        refine lv_goto (tgt := 71) hx hb dX9_isCrease_48 (by decide) ?_
        obtain rfl := mm_inj1 hf
        exact mm_zret (v := false) C0 hP hD hS dX9_isCrease_71 (by decide)
      · have hf := mm_in hf c_13
        refine lv_iconst (v := 1) hx hb dX9_isCrease_43 (by decide) ?_
        refine lv_goto (tgt := 71) hx hb dX9_isCrease_44 (by decide) ?_
        obtain rfl := mm_inj1 hf
        exact mm_zret (v := true) C0 hP hD hS dX9_isCrease_71 (by decide)
  · have hf := mm_ip hf (mm_b0 c_7)
    refine lv_iconst (v := 0) hx hb dX9_isCrease_20 (by decide) ?_
    obtain rfl := mm_inj1 hf
    exact mm_zret (v := false) C0 hP hD hS dX9_isCrease_21 (by decide)

theorem nb_dX9_otherOf_0 : bls_w cX9_otherOf [(0, [27]), (1, [5]), (2, [112]), (3, [154, 0, 11]), (6, [27]), (7, [5]), (8, [108]), (9, [4]), (10, [96]), (11, [167, 0, 11]), (14, [27]), (15, [5])] := bls_of (by decide +kernel)
theorem dX9_otherOf_0 : decode cX9_otherOf 0 = .ok (.iload_n 1, 1) := op_27 nb_dX9_otherOf_0.1
theorem dX9_otherOf_1 : decode cX9_otherOf 1 = .ok (.iconst 2, 1) := op_5 nb_dX9_otherOf_0.2.1
theorem dX9_otherOf_2 : decode cX9_otherOf 2 = .ok (.irem, 1) := op_112 nb_dX9_otherOf_0.2.2.1
set_option maxRecDepth 100000 in
theorem dX9_otherOf_3 : decode cX9_otherOf 3 = .ok (.ifCond .ne 11, 3) := (op_154 nb_dX9_otherOf_0.2.2.2.1).trans rfl
theorem dX9_otherOf_6 : decode cX9_otherOf 6 = .ok (.iload_n 1, 1) := op_27 nb_dX9_otherOf_0.2.2.2.2.1
theorem dX9_otherOf_7 : decode cX9_otherOf 7 = .ok (.iconst 2, 1) := op_5 nb_dX9_otherOf_0.2.2.2.2.2.1
theorem dX9_otherOf_8 : decode cX9_otherOf 8 = .ok (.idiv, 1) := op_108 nb_dX9_otherOf_0.2.2.2.2.2.2.1
theorem dX9_otherOf_9 : decode cX9_otherOf 9 = .ok (.iconst 1, 1) := op_4 nb_dX9_otherOf_0.2.2.2.2.2.2.2.1
theorem dX9_otherOf_10 : decode cX9_otherOf 10 = .ok (.iadd, 1) := op_96 nb_dX9_otherOf_0.2.2.2.2.2.2.2.2.1
set_option maxRecDepth 100000 in
theorem dX9_otherOf_11 : decode cX9_otherOf 11 = .ok (.goto 11, 3) := (op_167 nb_dX9_otherOf_0.2.2.2.2.2.2.2.2.2.1).trans rfl
theorem dX9_otherOf_14 : decode cX9_otherOf 14 = .ok (.iload_n 1, 1) := op_27 nb_dX9_otherOf_0.2.2.2.2.2.2.2.2.2.2.1
theorem dX9_otherOf_15 : decode cX9_otherOf 15 = .ok (.iconst 2, 1) := op_5 nb_dX9_otherOf_0.2.2.2.2.2.2.2.2.2.2.2.1
theorem nb_dX9_otherOf_16 : bls_w cX9_otherOf [(16, [108]), (17, [42]), (18, [180, 0, 124]), (21, [96]), (22, [172])] := bls_of (by decide +kernel)
theorem dX9_otherOf_16 : decode cX9_otherOf 16 = .ok (.idiv, 1) := op_108 nb_dX9_otherOf_16.1
theorem dX9_otherOf_17 : decode cX9_otherOf 17 = .ok (.aload_n 0, 1) := op_42 nb_dX9_otherOf_16.2.1
set_option maxRecDepth 100000 in
theorem dX9_otherOf_18 : decode cX9_otherOf 18 = .ok (.getfield 124, 3) := (op_180 nb_dX9_otherOf_16.2.2.1).trans rfl
theorem dX9_otherOf_21 : decode cX9_otherOf 21 = .ok (.iadd, 1) := op_96 nb_dX9_otherOf_16.2.2.2.1
theorem dX9_otherOf_22 : decode cX9_otherOf 22 = .ok (.ireturn, 1) := op_172 nb_dX9_otherOf_16.2.2.2.2.1
def fX9_otherOf (N : Nat) (x1 : Int32) (v_columnsOf : Int32) : Option (Int32) :=
    mm_ck (mm_nz (2 : Int32)) (if (mm_rem x1 (2 : Int32)) = 0 then
    (mm_ck (mm_nz (2 : Int32)) (some (((x1 / (2 : Int32)) + (1 : Int32)))))
    else (mm_ck (mm_nz (2 : Int32)) (some (((x1 / (2 : Int32)) + v_columnsOf)))))

set_option maxHeartbeats 4000000 in
set_option maxRecDepth 100000 in
theorem ctX9_otherOf {l : Launch} {D : va_G} {cI cL cS cH : ClassId} {a : Nat → Nat} {x1 : Int32} {v_keptMany : Int32} {v_done : Int32} {v_rowsOf : Int32} {v_columnsOf : Int32} {v_folded : Int32} {v_wronged : Int32} {v_tapeMany : Int32} {v_textMany : Int32} {v_base : Int32} {v_at : Int32} {v_ends : Int32} {v_fault : Int32} {v_opened : Int32} {v_bentMany : Int32} {v_bentWrong : Int32} {v_moreWorn : Int32} {v_planned : Int32} {v_allWrong : Int32} {v_allWorn : Int32} {v_z : Int32} {v_wishedField : Int32} {v_isFound : Bool} {v_bestWrong : Int32} {v_bestWorn : Int32} {v_bestMany : Int32} {v_soughtBy : Int32} {v_sought : Int32} {v_soughtAt : Int32} {v_foundMany : Int32} {v_foundOrder : Int32} {v_isKept : Bool} {v_imageRows : Int32} {v_imageColumns : Int32} {v_imageFolded : Int32} {v_imageWronged : Int32} {v_bodies : Int32} {v_ran : Int32} {v_ownKind : Int32} {v_ownNumber : Int32} {v_limit : List Int32} {v_changeWas : List Int32} {v_changeIs : List Int32} {v_shapeRows : List Int32} {v_shapeColumns : List Int32} {v_row : List Int32} {v_column : List Int32} {v_below : List Int32} {v_face : List Int32} {v_worn : List Int32} {v_lastBend : List Int32} {v_tape : List Int32} {v_text : List Int32} {v_names : List Int32} {v_bends : List Int32} {v_high : List Int32} {v_to : List Int32} {v_pileSize : List Int32} {v_planLine : List Int32} {v_planWay : List Int32} {v_way1 : List Int32} {v_bestWay : List Int32} {v_order1 : List Int32} {v_placeIn : List Int32} {v_bodyKind : List Int32} {v_trace : List Int32} {v_shelf : List Int32} {v_many : List Int32} {v_items : List Int64} {v_carried : List Int64} {r : Int32} {N d : Nat} (hd : 1 ≤ d) (hf : fX9_otherOf N x1 v_columnsOf = some r) : mm_Ct l yX9_otherOf cX9_otherOf 2 (some .int) d D (mm_T cI cL cS cH) [.ref (a 0), .int x1] (wd_X9 cI cL cS cH a v_keptMany v_done v_rowsOf v_columnsOf v_folded v_wronged v_tapeMany v_textMany v_base v_at v_ends v_fault v_opened v_bentMany v_bentWrong v_moreWorn v_planned v_allWrong v_allWorn v_z v_wishedField v_isFound v_bestWrong v_bestWorn v_bestMany v_soughtBy v_sought v_soughtAt v_foundMany v_foundOrder v_isKept v_imageRows v_imageColumns v_imageFolded v_imageWronged v_bodies v_ran v_ownKind v_ownNumber v_limit v_changeWas v_changeIs v_shapeRows v_shapeColumns v_row v_column v_below v_face v_worn v_lastBend v_tape v_text v_names v_bends v_high v_to v_pileSize v_planLine v_planWay v_way1 v_bestWay v_order1 v_placeIn v_bodyKind v_trace v_shelf v_many v_items v_carried) (wd_X9 cI cL cS cH a v_keptMany v_done v_rowsOf v_columnsOf v_folded v_wronged v_tapeMany v_textMany v_base v_at v_ends v_fault v_opened v_bentMany v_bentWrong v_moreWorn v_planned v_allWrong v_allWorn v_z v_wishedField v_isFound v_bestWrong v_bestWorn v_bestMany v_soughtBy v_sought v_soughtAt v_foundMany v_foundOrder v_isKept v_imageRows v_imageColumns v_imageFolded v_imageWronged v_bodies v_ran v_ownKind v_ownNumber v_limit v_changeWas v_changeIs v_shapeRows v_shapeColumns v_row v_column v_below v_face v_worn v_lastBend v_tape v_text v_names v_bends v_high v_to v_pileSize v_planLine v_planWay v_way1 v_bestWay v_order1 v_placeIn v_bodyKind v_trace v_shelf v_many v_items v_carried) (some (.int r)) := by
  refine mm_of (by decide) (Nat.le_of_ble_eq_true rfl) ?_
  intro p e s m args below meth c A H locs ls C0 hP hD hA hS hl
  have C0 : mm_Cx p s m args meth c RX9 cX9_otherOf 2 (some .int) D (mm_T cI cL cS cH) A := C0
  obtain ⟨hx, hb, hml, hown, hts, hr, hlocks, hK, hSt⟩ := id C0
  have hl : lv_has ls 2 [(0, .ref (a 0)), (1, .int x1)] := hl
  unfold fX9_otherOf at hf
  refine lv_iload_n hx hb dX9_otherOf_0 rfl (lv_at hl 1 rfl) ?_
  refine lv_iconst (v := 2) hx hb dX9_otherOf_1 (by decide) ?_
  obtain ⟨h_1, hf⟩ := mm_cks hf
  refine lv_irem hx hb dX9_otherOf_2 (mm_nzs h_1) ?_
  refine lv_if_ne (tgt := 14) hx hb dX9_otherOf_3 (by decide) (fun c_2 => ?_) (fun c_2 => ?_)
  · have hf := mm_in hf c_2
    refine lv_iload_n hx hb dX9_otherOf_14 rfl (lv_at hl 1 rfl) ?_
    refine lv_iconst (v := 2) hx hb dX9_otherOf_15 (by decide) ?_
    obtain ⟨h_3, hf⟩ := mm_cks hf
    refine lv_idiv hx hb dX9_otherOf_16 (mm_nzs h_3) ?_
    refine lv_aload_n hx hb dX9_otherOf_17 rfl (lv_at hl 0 rfl) ?_
    refine mm_get C0 hP iw_X9 0 rfl rfl 6 (by decide) fl_X9_124 rfl dX9_otherOf_18 ?_
    refine lv_iadd hx hb dX9_otherOf_21 ?_
    obtain rfl := mm_inj1 hf
    exact mm_iret C0 hP hD hS dX9_otherOf_22
  · have hf := mm_ip hf c_2
    refine lv_iload_n hx hb dX9_otherOf_6 rfl (lv_at hl 1 rfl) ?_
    refine lv_iconst (v := 2) hx hb dX9_otherOf_7 (by decide) ?_
    obtain ⟨h_4, hf⟩ := mm_cks hf
    refine lv_idiv hx hb dX9_otherOf_8 (mm_nzs h_4) ?_
    refine lv_iconst (v := 1) hx hb dX9_otherOf_9 (by decide) ?_
    refine lv_iadd hx hb dX9_otherOf_10 ?_
    refine lv_goto (tgt := 22) hx hb dX9_otherOf_11 (by decide) ?_
    obtain rfl := mm_inj1 hf
    exact mm_iret C0 hP hD hS dX9_otherOf_22
end
section
/-! reference: X9_feed, X9_byteAt, X9_wrong, X9_takes, X9_nameOf, X9_product -/
theorem nb_dX9_feed_0 : bls_w cX9_feed [(0, [27]), (1, [133]), (2, [9]), (3, [20, 0, 145]), (6, [184, 0, 111]), (9, [154, 0, 5]), (12, [2]), (13, [172]), (14, [42]), (15, [180, 0, 147]), (18, [16, 120]), (20, [160, 0, 6])] := bls_of (by decide +kernel)
theorem dX9_feed_0 : decode cX9_feed 0 = .ok (.iload_n 1, 1) := op_27 nb_dX9_feed_0.1
theorem dX9_feed_1 : decode cX9_feed 1 = .ok (.i2l, 1) := op_133 nb_dX9_feed_0.2.1
theorem dX9_feed_2 : decode cX9_feed 2 = .ok (.lconst 0, 1) := op_9 nb_dX9_feed_0.2.2.1
set_option maxRecDepth 100000 in
theorem dX9_feed_3 : decode cX9_feed 3 = .ok (.ldc2_w 145, 3) := (op_20 nb_dX9_feed_0.2.2.2.1).trans rfl
set_option maxRecDepth 100000 in
theorem dX9_feed_6 : decode cX9_feed 6 = .ok (.invokestatic 111, 3) := (op_184 nb_dX9_feed_0.2.2.2.2.1).trans rfl
set_option maxRecDepth 100000 in
theorem dX9_feed_9 : decode cX9_feed 9 = .ok (.ifCond .ne 5, 3) := (op_154 nb_dX9_feed_0.2.2.2.2.2.1).trans rfl
theorem dX9_feed_12 : decode cX9_feed 12 = .ok (.iconst (-1), 1) := op_2 nb_dX9_feed_0.2.2.2.2.2.2.1
theorem dX9_feed_13 : decode cX9_feed 13 = .ok (.ireturn, 1) := op_172 nb_dX9_feed_0.2.2.2.2.2.2.2.1
theorem dX9_feed_14 : decode cX9_feed 14 = .ok (.aload_n 0, 1) := op_42 nb_dX9_feed_0.2.2.2.2.2.2.2.2.1
set_option maxRecDepth 100000 in
theorem dX9_feed_15 : decode cX9_feed 15 = .ok (.getfield 147, 3) := (op_180 nb_dX9_feed_0.2.2.2.2.2.2.2.2.2.1).trans rfl
set_option maxRecDepth 100000 in
theorem dX9_feed_18 : decode cX9_feed 18 = .ok (.bipush 120, 2) := (op_16 nb_dX9_feed_0.2.2.2.2.2.2.2.2.2.2.1).trans rfl
set_option maxRecDepth 100000 in
theorem dX9_feed_20 : decode cX9_feed 20 = .ok (.if_icmp .ne 6, 3) := (op_160 nb_dX9_feed_0.2.2.2.2.2.2.2.2.2.2.2.1).trans rfl
theorem nb_dX9_feed_23 : bls_w cX9_feed [(23, [16, 253]), (25, [172]), (26, [42]), (27, [180, 0, 43]), (30, [42]), (31, [180, 0, 147]), (34, [27]), (35, [79]), (36, [42]), (37, [89]), (38, [180, 0, 147]), (41, [4])] := bls_of (by decide +kernel)
set_option maxRecDepth 100000 in
theorem dX9_feed_23 : decode cX9_feed 23 = .ok (.bipush (-3), 2) := (op_16 nb_dX9_feed_23.1).trans rfl
theorem dX9_feed_25 : decode cX9_feed 25 = .ok (.ireturn, 1) := op_172 nb_dX9_feed_23.2.1
theorem dX9_feed_26 : decode cX9_feed 26 = .ok (.aload_n 0, 1) := op_42 nb_dX9_feed_23.2.2.1
set_option maxRecDepth 100000 in
theorem dX9_feed_27 : decode cX9_feed 27 = .ok (.getfield 43, 3) := (op_180 nb_dX9_feed_23.2.2.2.1).trans rfl
theorem dX9_feed_30 : decode cX9_feed 30 = .ok (.aload_n 0, 1) := op_42 nb_dX9_feed_23.2.2.2.2.1
set_option maxRecDepth 100000 in
theorem dX9_feed_31 : decode cX9_feed 31 = .ok (.getfield 147, 3) := (op_180 nb_dX9_feed_23.2.2.2.2.2.1).trans rfl
theorem dX9_feed_34 : decode cX9_feed 34 = .ok (.iload_n 1, 1) := op_27 nb_dX9_feed_23.2.2.2.2.2.2.1
theorem dX9_feed_35 : decode cX9_feed 35 = .ok (.iastore, 1) := op_79 nb_dX9_feed_23.2.2.2.2.2.2.2.1
theorem dX9_feed_36 : decode cX9_feed 36 = .ok (.aload_n 0, 1) := op_42 nb_dX9_feed_23.2.2.2.2.2.2.2.2.1
theorem dX9_feed_37 : decode cX9_feed 37 = .ok (.dup, 1) := op_89 nb_dX9_feed_23.2.2.2.2.2.2.2.2.2.1
set_option maxRecDepth 100000 in
theorem dX9_feed_38 : decode cX9_feed 38 = .ok (.getfield 147, 3) := (op_180 nb_dX9_feed_23.2.2.2.2.2.2.2.2.2.2.1).trans rfl
theorem dX9_feed_41 : decode cX9_feed 41 = .ok (.iconst 1, 1) := op_4 nb_dX9_feed_23.2.2.2.2.2.2.2.2.2.2.2.1
theorem nb_dX9_feed_42 : bls_w cX9_feed [(42, [96]), (43, [181, 0, 147]), (46, [42]), (47, [180, 0, 147]), (50, [172])] := bls_of (by decide +kernel)
theorem dX9_feed_42 : decode cX9_feed 42 = .ok (.iadd, 1) := op_96 nb_dX9_feed_42.1
set_option maxRecDepth 100000 in
theorem dX9_feed_43 : decode cX9_feed 43 = .ok (.putfield 147, 3) := (op_181 nb_dX9_feed_42.2.1).trans rfl
theorem dX9_feed_46 : decode cX9_feed 46 = .ok (.aload_n 0, 1) := op_42 nb_dX9_feed_42.2.2.1
set_option maxRecDepth 100000 in
theorem dX9_feed_47 : decode cX9_feed 47 = .ok (.getfield 147, 3) := (op_180 nb_dX9_feed_42.2.2.2.1).trans rfl
theorem dX9_feed_50 : decode cX9_feed 50 = .ok (.ireturn, 1) := op_172 nb_dX9_feed_42.2.2.2.2.1
def fX9_feed (N : Nat) (x1 : Int32) (v_tapeMany : Int32) (v_tape : List Int32) : Option (Int32 × Int32 × List Int32) :=
    mm_bd1 (fX9_within N ((x1).toInt64) (0 : Int64) (255 : Int64)) (fun (r_1 : Bool) =>
    if r_1 = false then
    (some ((-1 : Int32), v_tapeMany, v_tape))
    else (if v_tapeMany = (120 : Int32) then
    (some ((-3 : Int32), v_tapeMany, v_tape))
    else (mm_ck (mm_inb v_tapeMany v_tape.length) (mm_nm (mm_is v_tape v_tapeMany x1) (fun (l_6 : List Int32) =>
    mm_nm ((v_tapeMany + (1 : Int32))) (fun (y_7 : Int32) =>
    some (y_7, y_7, l_6)))))))

set_option maxHeartbeats 4000000 in
set_option maxRecDepth 100000 in
theorem ctX9_feed {l : Launch} {D : va_G} {cI cL cS cH : ClassId} {a : Nat → Nat} {x1 : Int32} {v_keptMany : Int32} {v_done : Int32} {v_rowsOf : Int32} {v_columnsOf : Int32} {v_folded : Int32} {v_wronged : Int32} {v_tapeMany : Int32} {v_textMany : Int32} {v_base : Int32} {v_at : Int32} {v_ends : Int32} {v_fault : Int32} {v_opened : Int32} {v_bentMany : Int32} {v_bentWrong : Int32} {v_moreWorn : Int32} {v_planned : Int32} {v_allWrong : Int32} {v_allWorn : Int32} {v_z : Int32} {v_wishedField : Int32} {v_isFound : Bool} {v_bestWrong : Int32} {v_bestWorn : Int32} {v_bestMany : Int32} {v_soughtBy : Int32} {v_sought : Int32} {v_soughtAt : Int32} {v_foundMany : Int32} {v_foundOrder : Int32} {v_isKept : Bool} {v_imageRows : Int32} {v_imageColumns : Int32} {v_imageFolded : Int32} {v_imageWronged : Int32} {v_bodies : Int32} {v_ran : Int32} {v_ownKind : Int32} {v_ownNumber : Int32} {v_limit : List Int32} {v_changeWas : List Int32} {v_changeIs : List Int32} {v_shapeRows : List Int32} {v_shapeColumns : List Int32} {v_row : List Int32} {v_column : List Int32} {v_below : List Int32} {v_face : List Int32} {v_worn : List Int32} {v_lastBend : List Int32} {v_tape : List Int32} {v_text : List Int32} {v_names : List Int32} {v_bends : List Int32} {v_high : List Int32} {v_to : List Int32} {v_pileSize : List Int32} {v_planLine : List Int32} {v_planWay : List Int32} {v_way1 : List Int32} {v_bestWay : List Int32} {v_order1 : List Int32} {v_placeIn : List Int32} {v_bodyKind : List Int32} {v_trace : List Int32} {v_shelf : List Int32} {v_many : List Int32} {v_items : List Int64} {v_carried : List Int64} {r : Int32} {w_tapeMany : Int32} {w_tape : List Int32} {N d : Nat} (hd : 2 ≤ d) (hf : fX9_feed N x1 v_tapeMany v_tape = some (r, w_tapeMany, w_tape)) : mm_Ct l yX9_feed cX9_feed 2 (some .int) d D (mm_T cI cL cS cH) [.ref (a 0), .int x1] (wd_X9 cI cL cS cH a v_keptMany v_done v_rowsOf v_columnsOf v_folded v_wronged v_tapeMany v_textMany v_base v_at v_ends v_fault v_opened v_bentMany v_bentWrong v_moreWorn v_planned v_allWrong v_allWorn v_z v_wishedField v_isFound v_bestWrong v_bestWorn v_bestMany v_soughtBy v_sought v_soughtAt v_foundMany v_foundOrder v_isKept v_imageRows v_imageColumns v_imageFolded v_imageWronged v_bodies v_ran v_ownKind v_ownNumber v_limit v_changeWas v_changeIs v_shapeRows v_shapeColumns v_row v_column v_below v_face v_worn v_lastBend v_tape v_text v_names v_bends v_high v_to v_pileSize v_planLine v_planWay v_way1 v_bestWay v_order1 v_placeIn v_bodyKind v_trace v_shelf v_many v_items v_carried) (wd_X9 cI cL cS cH a v_keptMany v_done v_rowsOf v_columnsOf v_folded v_wronged w_tapeMany v_textMany v_base v_at v_ends v_fault v_opened v_bentMany v_bentWrong v_moreWorn v_planned v_allWrong v_allWorn v_z v_wishedField v_isFound v_bestWrong v_bestWorn v_bestMany v_soughtBy v_sought v_soughtAt v_foundMany v_foundOrder v_isKept v_imageRows v_imageColumns v_imageFolded v_imageWronged v_bodies v_ran v_ownKind v_ownNumber v_limit v_changeWas v_changeIs v_shapeRows v_shapeColumns v_row v_column v_below v_face v_worn v_lastBend w_tape v_text v_names v_bends v_high v_to v_pileSize v_planLine v_planWay v_way1 v_bestWay v_order1 v_placeIn v_bodyKind v_trace v_shelf v_many v_items v_carried) (some (.int r)) := by
  refine mm_of (by decide) (Nat.le_of_ble_eq_true rfl) ?_
  intro p e s m args below meth c A H locs ls C0 hP hD hA hS hl
  have C0 : mm_Cx p s m args meth c RX9 cX9_feed 2 (some .int) D (mm_T cI cL cS cH) A := C0
  obtain ⟨hx, hb, hml, hown, hts, hr, hlocks, hK, hSt⟩ := id C0
  have hl : lv_has ls 2 [(0, .ref (a 0)), (1, .int x1)] := hl
  unfold fX9_feed at hf
  refine lv_iload_n hx hb dX9_feed_0 rfl (lv_at hl 1 rfl) ?_
  refine lv_i2l hx hb dX9_feed_1 rfl ?_
  refine lv_lconst (v := 0) hx hb dX9_feed_2 (by decide) ?_
  refine lv_ldc2 hx hb hown (hts _ kc_X9_145) dX9_feed_3 ?_
  obtain ⟨r_1, hc_2, hf⟩ := mm_bd1s hf
  refine mm_callS0 (rest := []) C0 lk_X9_111 (ctX9_within (d := d - 1) (by omega) hc_2) (by omega) rfl hl.1 rfl (mm_cat rfl) dX9_feed_6 hP hD hA hS (fun H locs hP hS => ?_)
  refine W.eq (g2 := F0 m 9 ls [.int (mm_b r_1)]) rfl ?_
  refine lv_if_ne (tgt := 14) hx hb dX9_feed_9 (by decide) (fun c_3 => ?_) (fun c_3 => ?_)
  · have hf := mm_in hf (mm_b1 c_3)
    refine lv_aload_n hx hb dX9_feed_14 rfl (lv_at hl 0 rfl) ?_
    refine mm_get C0 hP iw_X9 0 rfl rfl 18 (by decide) fl_X9_147 rfl dX9_feed_15 ?_
    refine lv_bipush (v := 120) hx hb dX9_feed_18 (by decide) ?_
    refine lv_icmp_ne (tgt := 26) hx hb dX9_feed_20 (by decide) (fun c_4 => ?_) (fun c_4 => ?_)
    · have hf := mm_in hf c_4
      refine lv_aload_n hx hb dX9_feed_26 rfl (lv_at hl 0 rfl) ?_
      refine mm_get C0 hP iw_X9 0 rfl rfl 17 (by decide) fl_X9_43 rfl dX9_feed_27 ?_
      refine lv_aload_n hx hb dX9_feed_30 rfl (lv_at hl 0 rfl) ?_
      refine mm_get C0 hP iw_X9 0 rfl rfl 18 (by decide) fl_X9_147 rfl dX9_feed_31 ?_
      refine lv_iload_n hx hb dX9_feed_34 rfl (lv_at hl 1 rfl) ?_
      obtain ⟨h_5, hf⟩ := mm_cks hf
      refine mm_iast C0 hP hD hS 12 rfl h_5 dX9_feed_35 (w2 := (wd_X9 cI cL cS cH a v_keptMany v_done v_rowsOf v_columnsOf v_folded v_wronged v_tapeMany v_textMany v_base v_at v_ends v_fault v_opened v_bentMany v_bentWrong v_moreWorn v_planned v_allWrong v_allWorn v_z v_wishedField v_isFound v_bestWrong v_bestWorn v_bestMany v_soughtBy v_sought v_soughtAt v_foundMany v_foundOrder v_isKept v_imageRows v_imageColumns v_imageFolded v_imageWronged v_bodies v_ran v_ownKind v_ownNumber v_limit v_changeWas v_changeIs v_shapeRows v_shapeColumns v_row v_column v_below v_face v_worn v_lastBend (mm_is v_tape v_tapeMany x1) v_text v_names v_bends v_high v_to v_pileSize v_planLine v_planWay v_way1 v_bestWay v_order1 v_placeIn v_bodyKind v_trace v_shelf v_many v_items v_carried)) rfl (fun H locs hP hD hS => ?_)
      generalize el_6 : (mm_is v_tape v_tapeMany x1) = l_6 at hP hD
      have hf := mm_nms hf el_6.symm
      refine lv_aload_n hx hb dX9_feed_36 rfl (lv_at hl 0 rfl) ?_
      refine lv_dup hx hb dX9_feed_37 rfl ?_
      refine mm_get C0 hP iw_X9 0 rfl rfl 18 (by decide) fl_X9_147 rfl dX9_feed_38 ?_
      refine lv_iconst (v := 1) hx hb dX9_feed_41 (by decide) ?_
      refine lv_iadd hx hb dX9_feed_42 ?_
      refine lv_topi (fun y_7 ey_7 => ?_)
      have hf := mm_nms hf ey_7
      refine mm_put C0 hP hD hS iw_X9 tyX9 tyX9_ok nmX9 0 rfl rfl 18 (by decide) fl_X9_147 rfl rfl rfl (Nat.le_of_ble_eq_true rfl) dX9_feed_43 (w2 := (wd_X9 cI cL cS cH a v_keptMany v_done v_rowsOf v_columnsOf v_folded v_wronged y_7 v_textMany v_base v_at v_ends v_fault v_opened v_bentMany v_bentWrong v_moreWorn v_planned v_allWrong v_allWorn v_z v_wishedField v_isFound v_bestWrong v_bestWorn v_bestMany v_soughtBy v_sought v_soughtAt v_foundMany v_foundOrder v_isKept v_imageRows v_imageColumns v_imageFolded v_imageWronged v_bodies v_ran v_ownKind v_ownNumber v_limit v_changeWas v_changeIs v_shapeRows v_shapeColumns v_row v_column v_below v_face v_worn v_lastBend l_6 v_text v_names v_bends v_high v_to v_pileSize v_planLine v_planWay v_way1 v_bestWay v_order1 v_placeIn v_bodyKind v_trace v_shelf v_many v_items v_carried)) rfl (fun H locs hP hD hS => ?_)
      refine lv_aload_n hx hb dX9_feed_46 rfl (lv_at hl 0 rfl) ?_
      refine mm_get C0 hP iw_X9 0 rfl rfl 18 (by decide) fl_X9_147 rfl dX9_feed_47 ?_
      apply mm_sub3 hf
      exact mm_iret C0 hP hD hS dX9_feed_50
    · have hf := mm_ip hf c_4
      refine lv_bipush (v := -3) hx hb dX9_feed_23 (by decide) ?_
      apply mm_sub3 hf
      exact mm_iret C0 hP hD hS dX9_feed_25
  · have hf := mm_ip hf (mm_b0 c_3)
    refine lv_iconst (v := -1) hx hb dX9_feed_12 (by decide) ?_
    apply mm_sub3 hf
    exact mm_iret C0 hP hD hS dX9_feed_13

theorem nb_dX9_byteAt_0 : bls_w cX9_byteAt [(0, [42]), (1, [180, 0, 150]), (4, [42]), (5, [180, 0, 153]), (8, [162, 0, 39]), (11, [42]), (12, [180, 0, 156]), (15, [156, 0, 15]), (18, [42]), (19, [180, 0, 43]), (22, [42]), (23, [180, 0, 150])] := bls_of (by decide +kernel)
theorem dX9_byteAt_0 : decode cX9_byteAt 0 = .ok (.aload_n 0, 1) := op_42 nb_dX9_byteAt_0.1
set_option maxRecDepth 100000 in
theorem dX9_byteAt_1 : decode cX9_byteAt 1 = .ok (.getfield 150, 3) := (op_180 nb_dX9_byteAt_0.2.1).trans rfl
theorem dX9_byteAt_4 : decode cX9_byteAt 4 = .ok (.aload_n 0, 1) := op_42 nb_dX9_byteAt_0.2.2.1
set_option maxRecDepth 100000 in
theorem dX9_byteAt_5 : decode cX9_byteAt 5 = .ok (.getfield 153, 3) := (op_180 nb_dX9_byteAt_0.2.2.2.1).trans rfl
set_option maxRecDepth 100000 in
theorem dX9_byteAt_8 : decode cX9_byteAt 8 = .ok (.if_icmp .ge 39, 3) := (op_162 nb_dX9_byteAt_0.2.2.2.2.1).trans rfl
theorem dX9_byteAt_11 : decode cX9_byteAt 11 = .ok (.aload_n 0, 1) := op_42 nb_dX9_byteAt_0.2.2.2.2.2.1
set_option maxRecDepth 100000 in
theorem dX9_byteAt_12 : decode cX9_byteAt 12 = .ok (.getfield 156, 3) := (op_180 nb_dX9_byteAt_0.2.2.2.2.2.2.1).trans rfl
set_option maxRecDepth 100000 in
theorem dX9_byteAt_15 : decode cX9_byteAt 15 = .ok (.ifCond .ge 15, 3) := (op_156 nb_dX9_byteAt_0.2.2.2.2.2.2.2.1).trans rfl
theorem dX9_byteAt_18 : decode cX9_byteAt 18 = .ok (.aload_n 0, 1) := op_42 nb_dX9_byteAt_0.2.2.2.2.2.2.2.2.1
set_option maxRecDepth 100000 in
theorem dX9_byteAt_19 : decode cX9_byteAt 19 = .ok (.getfield 43, 3) := (op_180 nb_dX9_byteAt_0.2.2.2.2.2.2.2.2.2.1).trans rfl
theorem dX9_byteAt_22 : decode cX9_byteAt 22 = .ok (.aload_n 0, 1) := op_42 nb_dX9_byteAt_0.2.2.2.2.2.2.2.2.2.2.1
set_option maxRecDepth 100000 in
theorem dX9_byteAt_23 : decode cX9_byteAt 23 = .ok (.getfield 150, 3) := (op_180 nb_dX9_byteAt_0.2.2.2.2.2.2.2.2.2.2.2.1).trans rfl
theorem nb_dX9_byteAt_26 : bls_w cX9_byteAt [(26, [46]), (27, [167, 0, 21]), (30, [42]), (31, [180, 0, 46]), (34, [42]), (35, [180, 0, 156]), (38, [42]), (39, [180, 0, 150]), (42, [96]), (43, [46]), (44, [167, 0, 4]), (47, [3])] := bls_of (by decide +kernel)
theorem dX9_byteAt_26 : decode cX9_byteAt 26 = .ok (.iaload, 1) := op_46 nb_dX9_byteAt_26.1
set_option maxRecDepth 100000 in
theorem dX9_byteAt_27 : decode cX9_byteAt 27 = .ok (.goto 21, 3) := (op_167 nb_dX9_byteAt_26.2.1).trans rfl
theorem dX9_byteAt_30 : decode cX9_byteAt 30 = .ok (.aload_n 0, 1) := op_42 nb_dX9_byteAt_26.2.2.1
set_option maxRecDepth 100000 in
theorem dX9_byteAt_31 : decode cX9_byteAt 31 = .ok (.getfield 46, 3) := (op_180 nb_dX9_byteAt_26.2.2.2.1).trans rfl
theorem dX9_byteAt_34 : decode cX9_byteAt 34 = .ok (.aload_n 0, 1) := op_42 nb_dX9_byteAt_26.2.2.2.2.1
set_option maxRecDepth 100000 in
theorem dX9_byteAt_35 : decode cX9_byteAt 35 = .ok (.getfield 156, 3) := (op_180 nb_dX9_byteAt_26.2.2.2.2.2.1).trans rfl
theorem dX9_byteAt_38 : decode cX9_byteAt 38 = .ok (.aload_n 0, 1) := op_42 nb_dX9_byteAt_26.2.2.2.2.2.2.1
set_option maxRecDepth 100000 in
theorem dX9_byteAt_39 : decode cX9_byteAt 39 = .ok (.getfield 150, 3) := (op_180 nb_dX9_byteAt_26.2.2.2.2.2.2.2.1).trans rfl
theorem dX9_byteAt_42 : decode cX9_byteAt 42 = .ok (.iadd, 1) := op_96 nb_dX9_byteAt_26.2.2.2.2.2.2.2.2.1
theorem dX9_byteAt_43 : decode cX9_byteAt 43 = .ok (.iaload, 1) := op_46 nb_dX9_byteAt_26.2.2.2.2.2.2.2.2.2.1
set_option maxRecDepth 100000 in
theorem dX9_byteAt_44 : decode cX9_byteAt 44 = .ok (.goto 4, 3) := (op_167 nb_dX9_byteAt_26.2.2.2.2.2.2.2.2.2.2.1).trans rfl
theorem dX9_byteAt_47 : decode cX9_byteAt 47 = .ok (.iconst 0, 1) := op_3 nb_dX9_byteAt_26.2.2.2.2.2.2.2.2.2.2.2.1
theorem nb_dX9_byteAt_48 : bls_w cX9_byteAt [(48, [172])] := bls_of (by decide +kernel)
theorem dX9_byteAt_48 : decode cX9_byteAt 48 = .ok (.ireturn, 1) := op_172 nb_dX9_byteAt_48.1
def fX9_byteAt (N : Nat) (v_base : Int32) (v_at : Int32) (v_ends : Int32) (v_tape : List Int32) (v_text : List Int32) : Option (Int32) :=
    if v_ends ≤ v_at then
    (some ((0 : Int32)))
    else (if 0 ≤ v_base then
    (mm_ck (mm_inb (v_base + v_at) v_text.length) (some ((mm_ig v_text (v_base + v_at)))))
    else (mm_ck (mm_inb v_at v_tape.length) (some ((mm_ig v_tape v_at)))))

set_option maxHeartbeats 4000000 in
set_option maxRecDepth 100000 in
theorem ctX9_byteAt {l : Launch} {D : va_G} {cI cL cS cH : ClassId} {a : Nat → Nat}  {v_keptMany : Int32} {v_done : Int32} {v_rowsOf : Int32} {v_columnsOf : Int32} {v_folded : Int32} {v_wronged : Int32} {v_tapeMany : Int32} {v_textMany : Int32} {v_base : Int32} {v_at : Int32} {v_ends : Int32} {v_fault : Int32} {v_opened : Int32} {v_bentMany : Int32} {v_bentWrong : Int32} {v_moreWorn : Int32} {v_planned : Int32} {v_allWrong : Int32} {v_allWorn : Int32} {v_z : Int32} {v_wishedField : Int32} {v_isFound : Bool} {v_bestWrong : Int32} {v_bestWorn : Int32} {v_bestMany : Int32} {v_soughtBy : Int32} {v_sought : Int32} {v_soughtAt : Int32} {v_foundMany : Int32} {v_foundOrder : Int32} {v_isKept : Bool} {v_imageRows : Int32} {v_imageColumns : Int32} {v_imageFolded : Int32} {v_imageWronged : Int32} {v_bodies : Int32} {v_ran : Int32} {v_ownKind : Int32} {v_ownNumber : Int32} {v_limit : List Int32} {v_changeWas : List Int32} {v_changeIs : List Int32} {v_shapeRows : List Int32} {v_shapeColumns : List Int32} {v_row : List Int32} {v_column : List Int32} {v_below : List Int32} {v_face : List Int32} {v_worn : List Int32} {v_lastBend : List Int32} {v_tape : List Int32} {v_text : List Int32} {v_names : List Int32} {v_bends : List Int32} {v_high : List Int32} {v_to : List Int32} {v_pileSize : List Int32} {v_planLine : List Int32} {v_planWay : List Int32} {v_way1 : List Int32} {v_bestWay : List Int32} {v_order1 : List Int32} {v_placeIn : List Int32} {v_bodyKind : List Int32} {v_trace : List Int32} {v_shelf : List Int32} {v_many : List Int32} {v_items : List Int64} {v_carried : List Int64} {r : Int32} {N d : Nat} (hd : 1 ≤ d) (hf : fX9_byteAt N v_base v_at v_ends v_tape v_text = some r) : mm_Ct l yX9_byteAt cX9_byteAt 1 (some .int) d D (mm_T cI cL cS cH) [.ref (a 0)] (wd_X9 cI cL cS cH a v_keptMany v_done v_rowsOf v_columnsOf v_folded v_wronged v_tapeMany v_textMany v_base v_at v_ends v_fault v_opened v_bentMany v_bentWrong v_moreWorn v_planned v_allWrong v_allWorn v_z v_wishedField v_isFound v_bestWrong v_bestWorn v_bestMany v_soughtBy v_sought v_soughtAt v_foundMany v_foundOrder v_isKept v_imageRows v_imageColumns v_imageFolded v_imageWronged v_bodies v_ran v_ownKind v_ownNumber v_limit v_changeWas v_changeIs v_shapeRows v_shapeColumns v_row v_column v_below v_face v_worn v_lastBend v_tape v_text v_names v_bends v_high v_to v_pileSize v_planLine v_planWay v_way1 v_bestWay v_order1 v_placeIn v_bodyKind v_trace v_shelf v_many v_items v_carried) (wd_X9 cI cL cS cH a v_keptMany v_done v_rowsOf v_columnsOf v_folded v_wronged v_tapeMany v_textMany v_base v_at v_ends v_fault v_opened v_bentMany v_bentWrong v_moreWorn v_planned v_allWrong v_allWorn v_z v_wishedField v_isFound v_bestWrong v_bestWorn v_bestMany v_soughtBy v_sought v_soughtAt v_foundMany v_foundOrder v_isKept v_imageRows v_imageColumns v_imageFolded v_imageWronged v_bodies v_ran v_ownKind v_ownNumber v_limit v_changeWas v_changeIs v_shapeRows v_shapeColumns v_row v_column v_below v_face v_worn v_lastBend v_tape v_text v_names v_bends v_high v_to v_pileSize v_planLine v_planWay v_way1 v_bestWay v_order1 v_placeIn v_bodyKind v_trace v_shelf v_many v_items v_carried) (some (.int r)) := by
  refine mm_of (by decide) (Nat.le_of_ble_eq_true rfl) ?_
  intro p e s m args below meth c A H locs ls C0 hP hD hA hS hl
  have C0 : mm_Cx p s m args meth c RX9 cX9_byteAt 1 (some .int) D (mm_T cI cL cS cH) A := C0
  obtain ⟨hx, hb, hml, hown, hts, hr, hlocks, hK, hSt⟩ := id C0
  have hl : lv_has ls 1 [(0, .ref (a 0))] := hl
  unfold fX9_byteAt at hf
  refine lv_aload_n hx hb dX9_byteAt_0 rfl (lv_at hl 0 rfl) ?_
  refine mm_get C0 hP iw_X9 0 rfl rfl 22 (by decide) fl_X9_150 rfl dX9_byteAt_1 ?_
  refine lv_aload_n hx hb dX9_byteAt_4 rfl (lv_at hl 0 rfl) ?_
  refine mm_get C0 hP iw_X9 0 rfl rfl 23 (by decide) fl_X9_153 rfl dX9_byteAt_5 ?_
  refine lv_icmp_ge (tgt := 47) hx hb dX9_byteAt_8 (by decide) (fun c_1 => ?_) (fun c_1 => ?_)
  · have hf := mm_ip hf c_1
    refine lv_iconst (v := 0) hx hb dX9_byteAt_47 (by decide) ?_
    obtain rfl := mm_inj1 hf
    exact mm_iret C0 hP hD hS dX9_byteAt_48
  · have hf := mm_in hf c_1
    refine lv_aload_n hx hb dX9_byteAt_11 rfl (lv_at hl 0 rfl) ?_
    refine mm_get C0 hP iw_X9 0 rfl rfl 21 (by decide) fl_X9_156 rfl dX9_byteAt_12 ?_
    refine lv_if_ge (tgt := 30) hx hb dX9_byteAt_15 (by decide) (fun c_2 => ?_) (fun c_2 => ?_)
    · have hf := mm_ip hf c_2
      refine lv_aload_n hx hb dX9_byteAt_30 rfl (lv_at hl 0 rfl) ?_
      refine mm_get C0 hP iw_X9 0 rfl rfl 19 (by decide) fl_X9_46 rfl dX9_byteAt_31 ?_
      refine lv_aload_n hx hb dX9_byteAt_34 rfl (lv_at hl 0 rfl) ?_
      refine mm_get C0 hP iw_X9 0 rfl rfl 21 (by decide) fl_X9_156 rfl dX9_byteAt_35 ?_
      refine lv_aload_n hx hb dX9_byteAt_38 rfl (lv_at hl 0 rfl) ?_
      refine mm_get C0 hP iw_X9 0 rfl rfl 22 (by decide) fl_X9_150 rfl dX9_byteAt_39 ?_
      refine lv_iadd hx hb dX9_byteAt_42 ?_
      obtain ⟨h_3, hf⟩ := mm_cks hf
      refine mm_iald C0 hP 13 rfl h_3 dX9_byteAt_43 ?_
      refine lv_goto (tgt := 48) hx hb dX9_byteAt_44 (by decide) ?_
      obtain rfl := mm_inj1 hf
      exact mm_iret C0 hP hD hS dX9_byteAt_48
    · have hf := mm_in hf c_2
      refine lv_aload_n hx hb dX9_byteAt_18 rfl (lv_at hl 0 rfl) ?_
      refine mm_get C0 hP iw_X9 0 rfl rfl 17 (by decide) fl_X9_43 rfl dX9_byteAt_19 ?_
      refine lv_aload_n hx hb dX9_byteAt_22 rfl (lv_at hl 0 rfl) ?_
      refine mm_get C0 hP iw_X9 0 rfl rfl 22 (by decide) fl_X9_150 rfl dX9_byteAt_23 ?_
      obtain ⟨h_4, hf⟩ := mm_cks hf
      refine mm_iald C0 hP 12 rfl h_4 dX9_byteAt_26 ?_
      refine lv_goto (tgt := 48) hx hb dX9_byteAt_27 (by decide) ?_
      obtain rfl := mm_inj1 hf
      exact mm_iret C0 hP hD hS dX9_byteAt_48

theorem nb_dX9_wrong_0 : bls_w cX9_wrong [(0, [42]), (1, [42]), (2, [180, 0, 159]), (5, [156, 0, 10]), (8, [42]), (9, [180, 0, 150]), (12, [167, 0, 7]), (15, [42]), (16, [180, 0, 159]), (19, [181, 0, 159]), (22, [3]), (23, [172])] := bls_of (by decide +kernel)
theorem dX9_wrong_0 : decode cX9_wrong 0 = .ok (.aload_n 0, 1) := op_42 nb_dX9_wrong_0.1
theorem dX9_wrong_1 : decode cX9_wrong 1 = .ok (.aload_n 0, 1) := op_42 nb_dX9_wrong_0.2.1
set_option maxRecDepth 100000 in
theorem dX9_wrong_2 : decode cX9_wrong 2 = .ok (.getfield 159, 3) := (op_180 nb_dX9_wrong_0.2.2.1).trans rfl
set_option maxRecDepth 100000 in
theorem dX9_wrong_5 : decode cX9_wrong 5 = .ok (.ifCond .ge 10, 3) := (op_156 nb_dX9_wrong_0.2.2.2.1).trans rfl
theorem dX9_wrong_8 : decode cX9_wrong 8 = .ok (.aload_n 0, 1) := op_42 nb_dX9_wrong_0.2.2.2.2.1
set_option maxRecDepth 100000 in
theorem dX9_wrong_9 : decode cX9_wrong 9 = .ok (.getfield 150, 3) := (op_180 nb_dX9_wrong_0.2.2.2.2.2.1).trans rfl
set_option maxRecDepth 100000 in
theorem dX9_wrong_12 : decode cX9_wrong 12 = .ok (.goto 7, 3) := (op_167 nb_dX9_wrong_0.2.2.2.2.2.2.1).trans rfl
theorem dX9_wrong_15 : decode cX9_wrong 15 = .ok (.aload_n 0, 1) := op_42 nb_dX9_wrong_0.2.2.2.2.2.2.2.1
set_option maxRecDepth 100000 in
theorem dX9_wrong_16 : decode cX9_wrong 16 = .ok (.getfield 159, 3) := (op_180 nb_dX9_wrong_0.2.2.2.2.2.2.2.2.1).trans rfl
set_option maxRecDepth 100000 in
theorem dX9_wrong_19 : decode cX9_wrong 19 = .ok (.putfield 159, 3) := (op_181 nb_dX9_wrong_0.2.2.2.2.2.2.2.2.2.1).trans rfl
theorem dX9_wrong_22 : decode cX9_wrong 22 = .ok (.iconst 0, 1) := op_3 nb_dX9_wrong_0.2.2.2.2.2.2.2.2.2.2.1
theorem dX9_wrong_23 : decode cX9_wrong 23 = .ok (.ireturn, 1) := op_172 nb_dX9_wrong_0.2.2.2.2.2.2.2.2.2.2.2.1
def fX9_wrong_19 (N : Nat)  (s0 : Int32) (v_at : Int32) (v_fault : Int32) : Option (Int32 × Int32) :=
    some ((0 : Int32), s0)

set_option maxHeartbeats 4000000 in
set_option maxRecDepth 100000 in
theorem tX9_wrong_19 {p : Program} {l : Launch} {e : Env} {s : State} {m : MethodId} {args : Array Value} {below : List Frame} {meth : Method} {c : Code} {D : va_G} {cI cL cS cH : ClassId} {A : Nat → Prop} {d : Nat} {a : Nat → Nat} (hd : 1 ≤ d) (C0 : mm_Cx p s m args meth c RX9 cX9_wrong 1 (some .int) D (mm_T cI cL cS cH) A) (hA : ∀ q, s.heap.size ≤ q → A q) {v_keptMany : Int32} {v_done : Int32} {v_rowsOf : Int32} {v_columnsOf : Int32} {v_folded : Int32} {v_wronged : Int32} {v_tapeMany : Int32} {v_textMany : Int32} {v_base : Int32} {v_ends : Int32} {v_opened : Int32} {v_bentMany : Int32} {v_bentWrong : Int32} {v_moreWorn : Int32} {v_planned : Int32} {v_allWrong : Int32} {v_allWorn : Int32} {v_z : Int32} {v_wishedField : Int32} {v_isFound : Bool} {v_bestWrong : Int32} {v_bestWorn : Int32} {v_bestMany : Int32} {v_soughtBy : Int32} {v_sought : Int32} {v_soughtAt : Int32} {v_foundMany : Int32} {v_foundOrder : Int32} {v_isKept : Bool} {v_imageRows : Int32} {v_imageColumns : Int32} {v_imageFolded : Int32} {v_imageWronged : Int32} {v_bodies : Int32} {v_ran : Int32} {v_ownKind : Int32} {v_ownNumber : Int32} {v_limit : List Int32} {v_changeWas : List Int32} {v_changeIs : List Int32} {v_shapeRows : List Int32} {v_shapeColumns : List Int32} {v_row : List Int32} {v_column : List Int32} {v_below : List Int32} {v_face : List Int32} {v_worn : List Int32} {v_lastBend : List Int32} {v_tape : List Int32} {v_text : List Int32} {v_names : List Int32} {v_bends : List Int32} {v_high : List Int32} {v_to : List Int32} {v_pileSize : List Int32} {v_planLine : List Int32} {v_planWay : List Int32} {v_way1 : List Int32} {v_bestWay : List Int32} {v_order1 : List Int32} {v_placeIn : List Int32} {v_bodyKind : List Int32} {v_trace : List Int32} {v_shelf : List Int32} {v_many : List Int32} {v_items : List Int64} {v_carried : List Int64} {r : Int32} {w_fault : Int32} (N : Nat)  : ∀ (s0 : Int32) (v_at : Int32) (v_fault : Int32) (H : Heap) (locs : List Loc) (ls : Array Slot), fX9_wrong_19 N s0 v_at v_fault = some (r, w_fault) → va_P D mm_cl (wd_X9 cI cL cS cH a v_keptMany v_done v_rowsOf v_columnsOf v_folded v_wronged v_tapeMany v_textMany v_base v_at v_ends v_fault v_opened v_bentMany v_bentWrong v_moreWorn v_planned v_allWrong v_allWorn v_z v_wishedField v_isFound v_bestWrong v_bestWorn v_bestMany v_soughtBy v_sought v_soughtAt v_foundMany v_foundOrder v_isKept v_imageRows v_imageColumns v_imageFolded v_imageWronged v_bodies v_ran v_ownKind v_ownNumber v_limit v_changeWas v_changeIs v_shapeRows v_shapeColumns v_row v_column v_below v_face v_worn v_lastBend v_tape v_text v_names v_bends v_high v_to v_pileSize v_planLine v_planWay v_way1 v_bestWay v_order1 v_placeIn v_bodyKind v_trace v_shelf v_many v_items v_carried) H → va_D A (wd_X9 cI cL cS cH a v_keptMany v_done v_rowsOf v_columnsOf v_folded v_wronged v_tapeMany v_textMany v_base v_at v_ends v_fault v_opened v_bentMany v_bentWrong v_moreWorn v_planned v_allWrong v_allWorn v_z v_wishedField v_isFound v_bestWrong v_bestWorn v_bestMany v_soughtBy v_sought v_soughtAt v_foundMany v_foundOrder v_isKept v_imageRows v_imageColumns v_imageFolded v_imageWronged v_bodies v_ran v_ownKind v_ownNumber v_limit v_changeWas v_changeIs v_shapeRows v_shapeColumns v_row v_column v_below v_face v_worn v_lastBend v_tape v_text v_names v_bends v_high v_to v_pileSize v_planLine v_planWay v_way1 v_bestWay v_order1 v_placeIn v_bodyKind v_trace v_shelf v_many v_items v_carried) → va_S A s.heap H locs → lv_has ls 1 [] → W p l e (mm_rr d) s m args below meth c H locs 0 0 (mm_Z below D A (wd_X9 cI cL cS cH a v_keptMany v_done v_rowsOf v_columnsOf v_folded v_wronged v_tapeMany v_textMany v_base v_at v_ends w_fault v_opened v_bentMany v_bentWrong v_moreWorn v_planned v_allWrong v_allWorn v_z v_wishedField v_isFound v_bestWrong v_bestWorn v_bestMany v_soughtBy v_sought v_soughtAt v_foundMany v_foundOrder v_isKept v_imageRows v_imageColumns v_imageFolded v_imageWronged v_bodies v_ran v_ownKind v_ownNumber v_limit v_changeWas v_changeIs v_shapeRows v_shapeColumns v_row v_column v_below v_face v_worn v_lastBend v_tape v_text v_names v_bends v_high v_to v_pileSize v_planLine v_planWay v_way1 v_bestWay v_order1 v_placeIn v_bodyKind v_trace v_shelf v_many v_items v_carried) (some (.int r)) args s) (F0 m 19 ls [.int s0, .ref (a 0)]) := by
  obtain ⟨hx, hb, hml, hown, hts, hr, hlocks, hK, hSt⟩ := id C0
  intro s0 v_at v_fault H locs ls hf hP hD hS hl
  unfold fX9_wrong_19 at hf
  refine mm_put C0 hP hD hS iw_X9 tyX9 tyX9_ok nmX9 0 rfl rfl 24 (by decide) fl_X9_159 rfl rfl rfl (Nat.le_of_ble_eq_true rfl) dX9_wrong_19 (w2 := (wd_X9 cI cL cS cH a v_keptMany v_done v_rowsOf v_columnsOf v_folded v_wronged v_tapeMany v_textMany v_base v_at v_ends s0 v_opened v_bentMany v_bentWrong v_moreWorn v_planned v_allWrong v_allWorn v_z v_wishedField v_isFound v_bestWrong v_bestWorn v_bestMany v_soughtBy v_sought v_soughtAt v_foundMany v_foundOrder v_isKept v_imageRows v_imageColumns v_imageFolded v_imageWronged v_bodies v_ran v_ownKind v_ownNumber v_limit v_changeWas v_changeIs v_shapeRows v_shapeColumns v_row v_column v_below v_face v_worn v_lastBend v_tape v_text v_names v_bends v_high v_to v_pileSize v_planLine v_planWay v_way1 v_bestWay v_order1 v_placeIn v_bodyKind v_trace v_shelf v_many v_items v_carried)) rfl (fun H locs hP hD hS => ?_)
  refine lv_iconst (v := 0) hx hb dX9_wrong_22 (by decide) ?_
  apply mm_sub2 hf
  exact mm_iret C0 hP hD hS dX9_wrong_23

def fX9_wrong (N : Nat) (v_at : Int32) (v_fault : Int32) : Option (Int32 × Int32) :=
    if 0 ≤ v_fault then
    (fX9_wrong_19 N v_fault v_at v_fault)
    else (fX9_wrong_19 N v_at v_at v_fault)

set_option maxHeartbeats 4000000 in
set_option maxRecDepth 100000 in
theorem ctX9_wrong {l : Launch} {D : va_G} {cI cL cS cH : ClassId} {a : Nat → Nat}  {v_keptMany : Int32} {v_done : Int32} {v_rowsOf : Int32} {v_columnsOf : Int32} {v_folded : Int32} {v_wronged : Int32} {v_tapeMany : Int32} {v_textMany : Int32} {v_base : Int32} {v_at : Int32} {v_ends : Int32} {v_fault : Int32} {v_opened : Int32} {v_bentMany : Int32} {v_bentWrong : Int32} {v_moreWorn : Int32} {v_planned : Int32} {v_allWrong : Int32} {v_allWorn : Int32} {v_z : Int32} {v_wishedField : Int32} {v_isFound : Bool} {v_bestWrong : Int32} {v_bestWorn : Int32} {v_bestMany : Int32} {v_soughtBy : Int32} {v_sought : Int32} {v_soughtAt : Int32} {v_foundMany : Int32} {v_foundOrder : Int32} {v_isKept : Bool} {v_imageRows : Int32} {v_imageColumns : Int32} {v_imageFolded : Int32} {v_imageWronged : Int32} {v_bodies : Int32} {v_ran : Int32} {v_ownKind : Int32} {v_ownNumber : Int32} {v_limit : List Int32} {v_changeWas : List Int32} {v_changeIs : List Int32} {v_shapeRows : List Int32} {v_shapeColumns : List Int32} {v_row : List Int32} {v_column : List Int32} {v_below : List Int32} {v_face : List Int32} {v_worn : List Int32} {v_lastBend : List Int32} {v_tape : List Int32} {v_text : List Int32} {v_names : List Int32} {v_bends : List Int32} {v_high : List Int32} {v_to : List Int32} {v_pileSize : List Int32} {v_planLine : List Int32} {v_planWay : List Int32} {v_way1 : List Int32} {v_bestWay : List Int32} {v_order1 : List Int32} {v_placeIn : List Int32} {v_bodyKind : List Int32} {v_trace : List Int32} {v_shelf : List Int32} {v_many : List Int32} {v_items : List Int64} {v_carried : List Int64} {r : Int32} {w_fault : Int32} {N d : Nat} (hd : 1 ≤ d) (hf : fX9_wrong N v_at v_fault = some (r, w_fault)) : mm_Ct l yX9_wrong cX9_wrong 1 (some .int) d D (mm_T cI cL cS cH) [.ref (a 0)] (wd_X9 cI cL cS cH a v_keptMany v_done v_rowsOf v_columnsOf v_folded v_wronged v_tapeMany v_textMany v_base v_at v_ends v_fault v_opened v_bentMany v_bentWrong v_moreWorn v_planned v_allWrong v_allWorn v_z v_wishedField v_isFound v_bestWrong v_bestWorn v_bestMany v_soughtBy v_sought v_soughtAt v_foundMany v_foundOrder v_isKept v_imageRows v_imageColumns v_imageFolded v_imageWronged v_bodies v_ran v_ownKind v_ownNumber v_limit v_changeWas v_changeIs v_shapeRows v_shapeColumns v_row v_column v_below v_face v_worn v_lastBend v_tape v_text v_names v_bends v_high v_to v_pileSize v_planLine v_planWay v_way1 v_bestWay v_order1 v_placeIn v_bodyKind v_trace v_shelf v_many v_items v_carried) (wd_X9 cI cL cS cH a v_keptMany v_done v_rowsOf v_columnsOf v_folded v_wronged v_tapeMany v_textMany v_base v_at v_ends w_fault v_opened v_bentMany v_bentWrong v_moreWorn v_planned v_allWrong v_allWorn v_z v_wishedField v_isFound v_bestWrong v_bestWorn v_bestMany v_soughtBy v_sought v_soughtAt v_foundMany v_foundOrder v_isKept v_imageRows v_imageColumns v_imageFolded v_imageWronged v_bodies v_ran v_ownKind v_ownNumber v_limit v_changeWas v_changeIs v_shapeRows v_shapeColumns v_row v_column v_below v_face v_worn v_lastBend v_tape v_text v_names v_bends v_high v_to v_pileSize v_planLine v_planWay v_way1 v_bestWay v_order1 v_placeIn v_bodyKind v_trace v_shelf v_many v_items v_carried) (some (.int r)) := by
  refine mm_of (by decide) (Nat.le_of_ble_eq_true rfl) ?_
  intro p e s m args below meth c A H locs ls C0 hP hD hA hS hl
  have C0 : mm_Cx p s m args meth c RX9 cX9_wrong 1 (some .int) D (mm_T cI cL cS cH) A := C0
  obtain ⟨hx, hb, hml, hown, hts, hr, hlocks, hK, hSt⟩ := id C0
  have hl : lv_has ls 1 [(0, .ref (a 0))] := hl
  unfold fX9_wrong at hf
  refine lv_aload_n hx hb dX9_wrong_0 rfl (lv_at hl 0 rfl) ?_
  refine lv_aload_n hx hb dX9_wrong_1 rfl (lv_at hl 0 rfl) ?_
  refine mm_get C0 hP iw_X9 0 rfl rfl 24 (by decide) fl_X9_159 rfl dX9_wrong_2 ?_
  refine lv_if_ge (tgt := 15) hx hb dX9_wrong_5 (by decide) (fun c_1 => ?_) (fun c_1 => ?_)
  · have hf := mm_ip hf c_1
    refine lv_aload_n hx hb dX9_wrong_15 rfl (lv_at hl 0 rfl) ?_
    refine mm_get C0 hP iw_X9 0 rfl rfl 24 (by decide) fl_X9_159 rfl dX9_wrong_16 ?_
    exact tX9_wrong_19 hd C0 hA N  _ _ _ H locs ls hf hP hD hS (lv_sub hl [] rfl)
  · have hf := mm_in hf c_1
    refine lv_aload_n hx hb dX9_wrong_8 rfl (lv_at hl 0 rfl) ?_
    refine mm_get C0 hP iw_X9 0 rfl rfl 22 (by decide) fl_X9_150 rfl dX9_wrong_9 ?_
    refine lv_goto (tgt := 19) hx hb dX9_wrong_12 (by decide) ?_
    exact tX9_wrong_19 hd C0 hA N  _ _ _ H locs ls hf hP hD hS (lv_sub hl [] rfl)

theorem nb_dX9_takes_0 : bls_w cX9_takes [(0, [42]), (1, [180, 0, 159]), (4, [156, 0, 11]), (7, [42]), (8, [182, 0, 162]), (11, [27]), (12, [159, 0, 5]), (15, [3]), (16, [172]), (17, [42]), (18, [89]), (19, [180, 0, 150])] := bls_of (by decide +kernel)
theorem dX9_takes_0 : decode cX9_takes 0 = .ok (.aload_n 0, 1) := op_42 nb_dX9_takes_0.1
set_option maxRecDepth 100000 in
theorem dX9_takes_1 : decode cX9_takes 1 = .ok (.getfield 159, 3) := (op_180 nb_dX9_takes_0.2.1).trans rfl
set_option maxRecDepth 100000 in
theorem dX9_takes_4 : decode cX9_takes 4 = .ok (.ifCond .ge 11, 3) := (op_156 nb_dX9_takes_0.2.2.1).trans rfl
theorem dX9_takes_7 : decode cX9_takes 7 = .ok (.aload_n 0, 1) := op_42 nb_dX9_takes_0.2.2.2.1
set_option maxRecDepth 100000 in
theorem dX9_takes_8 : decode cX9_takes 8 = .ok (.invokevirtual 162, 3) := (op_182 nb_dX9_takes_0.2.2.2.2.1).trans rfl
theorem dX9_takes_11 : decode cX9_takes 11 = .ok (.iload_n 1, 1) := op_27 nb_dX9_takes_0.2.2.2.2.2.1
set_option maxRecDepth 100000 in
theorem dX9_takes_12 : decode cX9_takes 12 = .ok (.if_icmp .eq 5, 3) := (op_159 nb_dX9_takes_0.2.2.2.2.2.2.1).trans rfl
theorem dX9_takes_15 : decode cX9_takes 15 = .ok (.iconst 0, 1) := op_3 nb_dX9_takes_0.2.2.2.2.2.2.2.1
theorem dX9_takes_16 : decode cX9_takes 16 = .ok (.ireturn, 1) := op_172 nb_dX9_takes_0.2.2.2.2.2.2.2.2.1
theorem dX9_takes_17 : decode cX9_takes 17 = .ok (.aload_n 0, 1) := op_42 nb_dX9_takes_0.2.2.2.2.2.2.2.2.2.1
theorem dX9_takes_18 : decode cX9_takes 18 = .ok (.dup, 1) := op_89 nb_dX9_takes_0.2.2.2.2.2.2.2.2.2.2.1
set_option maxRecDepth 100000 in
theorem dX9_takes_19 : decode cX9_takes 19 = .ok (.getfield 150, 3) := (op_180 nb_dX9_takes_0.2.2.2.2.2.2.2.2.2.2.2.1).trans rfl
theorem nb_dX9_takes_22 : bls_w cX9_takes [(22, [4]), (23, [96]), (24, [181, 0, 150]), (27, [4]), (28, [172])] := bls_of (by decide +kernel)
theorem dX9_takes_22 : decode cX9_takes 22 = .ok (.iconst 1, 1) := op_4 nb_dX9_takes_22.1
theorem dX9_takes_23 : decode cX9_takes 23 = .ok (.iadd, 1) := op_96 nb_dX9_takes_22.2.1
set_option maxRecDepth 100000 in
theorem dX9_takes_24 : decode cX9_takes 24 = .ok (.putfield 150, 3) := (op_181 nb_dX9_takes_22.2.2.1).trans rfl
theorem dX9_takes_27 : decode cX9_takes 27 = .ok (.iconst 1, 1) := op_4 nb_dX9_takes_22.2.2.2.1
theorem dX9_takes_28 : decode cX9_takes 28 = .ok (.ireturn, 1) := op_172 nb_dX9_takes_22.2.2.2.2.1
def fX9_takes (N : Nat) (x1 : Int32) (v_base : Int32) (v_at : Int32) (v_ends : Int32) (v_fault : Int32) (v_tape : List Int32) (v_text : List Int32) : Option (Bool × Int32) :=
    if 0 ≤ v_fault then
    (some (false, v_at))
    else (mm_bd1 (fX9_byteAt N v_base v_at v_ends v_tape v_text) (fun (r_2 : Int32) =>
    if r_2 = x1 then
    (mm_nm ((v_at + (1 : Int32))) (fun (y_5 : Int32) =>
    some (true, y_5)))
    else (some (false, v_at))))

set_option maxHeartbeats 4000000 in
set_option maxRecDepth 100000 in
theorem ctX9_takes {l : Launch} {D : va_G} {cI cL cS cH : ClassId} {a : Nat → Nat} {x1 : Int32} {v_keptMany : Int32} {v_done : Int32} {v_rowsOf : Int32} {v_columnsOf : Int32} {v_folded : Int32} {v_wronged : Int32} {v_tapeMany : Int32} {v_textMany : Int32} {v_base : Int32} {v_at : Int32} {v_ends : Int32} {v_fault : Int32} {v_opened : Int32} {v_bentMany : Int32} {v_bentWrong : Int32} {v_moreWorn : Int32} {v_planned : Int32} {v_allWrong : Int32} {v_allWorn : Int32} {v_z : Int32} {v_wishedField : Int32} {v_isFound : Bool} {v_bestWrong : Int32} {v_bestWorn : Int32} {v_bestMany : Int32} {v_soughtBy : Int32} {v_sought : Int32} {v_soughtAt : Int32} {v_foundMany : Int32} {v_foundOrder : Int32} {v_isKept : Bool} {v_imageRows : Int32} {v_imageColumns : Int32} {v_imageFolded : Int32} {v_imageWronged : Int32} {v_bodies : Int32} {v_ran : Int32} {v_ownKind : Int32} {v_ownNumber : Int32} {v_limit : List Int32} {v_changeWas : List Int32} {v_changeIs : List Int32} {v_shapeRows : List Int32} {v_shapeColumns : List Int32} {v_row : List Int32} {v_column : List Int32} {v_below : List Int32} {v_face : List Int32} {v_worn : List Int32} {v_lastBend : List Int32} {v_tape : List Int32} {v_text : List Int32} {v_names : List Int32} {v_bends : List Int32} {v_high : List Int32} {v_to : List Int32} {v_pileSize : List Int32} {v_planLine : List Int32} {v_planWay : List Int32} {v_way1 : List Int32} {v_bestWay : List Int32} {v_order1 : List Int32} {v_placeIn : List Int32} {v_bodyKind : List Int32} {v_trace : List Int32} {v_shelf : List Int32} {v_many : List Int32} {v_items : List Int64} {v_carried : List Int64} {r : Bool} {w_at : Int32} {N d : Nat} (hd : 2 ≤ d) (hf : fX9_takes N x1 v_base v_at v_ends v_fault v_tape v_text = some (r, w_at)) : mm_Ct l yX9_takes cX9_takes 2 (some .boolean) d D (mm_T cI cL cS cH) [.ref (a 0), .int x1] (wd_X9 cI cL cS cH a v_keptMany v_done v_rowsOf v_columnsOf v_folded v_wronged v_tapeMany v_textMany v_base v_at v_ends v_fault v_opened v_bentMany v_bentWrong v_moreWorn v_planned v_allWrong v_allWorn v_z v_wishedField v_isFound v_bestWrong v_bestWorn v_bestMany v_soughtBy v_sought v_soughtAt v_foundMany v_foundOrder v_isKept v_imageRows v_imageColumns v_imageFolded v_imageWronged v_bodies v_ran v_ownKind v_ownNumber v_limit v_changeWas v_changeIs v_shapeRows v_shapeColumns v_row v_column v_below v_face v_worn v_lastBend v_tape v_text v_names v_bends v_high v_to v_pileSize v_planLine v_planWay v_way1 v_bestWay v_order1 v_placeIn v_bodyKind v_trace v_shelf v_many v_items v_carried) (wd_X9 cI cL cS cH a v_keptMany v_done v_rowsOf v_columnsOf v_folded v_wronged v_tapeMany v_textMany v_base w_at v_ends v_fault v_opened v_bentMany v_bentWrong v_moreWorn v_planned v_allWrong v_allWorn v_z v_wishedField v_isFound v_bestWrong v_bestWorn v_bestMany v_soughtBy v_sought v_soughtAt v_foundMany v_foundOrder v_isKept v_imageRows v_imageColumns v_imageFolded v_imageWronged v_bodies v_ran v_ownKind v_ownNumber v_limit v_changeWas v_changeIs v_shapeRows v_shapeColumns v_row v_column v_below v_face v_worn v_lastBend v_tape v_text v_names v_bends v_high v_to v_pileSize v_planLine v_planWay v_way1 v_bestWay v_order1 v_placeIn v_bodyKind v_trace v_shelf v_many v_items v_carried) (some (.int (mm_b r))) := by
  refine mm_of (by decide) (Nat.le_of_ble_eq_true rfl) ?_
  intro p e s m args below meth c A H locs ls C0 hP hD hA hS hl
  have C0 : mm_Cx p s m args meth c RX9 cX9_takes 2 (some .boolean) D (mm_T cI cL cS cH) A := C0
  obtain ⟨hx, hb, hml, hown, hts, hr, hlocks, hK, hSt⟩ := id C0
  have hl : lv_has ls 2 [(0, .ref (a 0)), (1, .int x1)] := hl
  unfold fX9_takes at hf
  refine lv_aload_n hx hb dX9_takes_0 rfl (lv_at hl 0 rfl) ?_
  refine mm_get C0 hP iw_X9 0 rfl rfl 24 (by decide) fl_X9_159 rfl dX9_takes_1 ?_
  refine lv_if_ge (tgt := 15) hx hb dX9_takes_4 (by decide) (fun c_1 => ?_) (fun c_1 => ?_)
  · have hf := mm_ip hf c_1
    refine lv_iconst (v := 0) hx hb dX9_takes_15 (by decide) ?_
    apply mm_sub2 hf
    exact mm_zret (v := false) C0 hP hD hS dX9_takes_16 (by decide)
  · have hf := mm_in hf c_1
    refine lv_aload_n hx hb dX9_takes_7 rfl (lv_at hl 0 rfl) ?_
    obtain ⟨r_2, hc_3, hf⟩ := mm_bd1s hf
    refine mm_callVF (q0 := 0) (ci := 9) (rest := []) C0 lk_X9_162 (ctX9_byteAt (a := a) (d := d - 1) (by omega) hc_3) (by omega) rfl hl.1 rfl (mm_cat rfl) dX9_takes_8 hP hD hA hS rfl rfl (fun H locs hP hD hS => ?_)
    refine W.eq (g2 := F0 m 11 ls [.int r_2]) rfl ?_
    refine lv_iload_n hx hb dX9_takes_11 rfl (lv_at hl 1 rfl) ?_
    refine lv_icmp_eq (tgt := 17) hx hb dX9_takes_12 (by decide) (fun c_4 => ?_) (fun c_4 => ?_)
    · have hf := mm_ip hf c_4
      refine lv_aload_n hx hb dX9_takes_17 rfl (lv_at hl 0 rfl) ?_
      refine lv_dup hx hb dX9_takes_18 rfl ?_
      refine mm_get C0 hP iw_X9 0 rfl rfl 22 (by decide) fl_X9_150 rfl dX9_takes_19 ?_
      refine lv_iconst (v := 1) hx hb dX9_takes_22 (by decide) ?_
      refine lv_iadd hx hb dX9_takes_23 ?_
      refine lv_topi (fun y_5 ey_5 => ?_)
      have hf := mm_nms hf ey_5
      refine mm_put C0 hP hD hS iw_X9 tyX9 tyX9_ok nmX9 0 rfl rfl 22 (by decide) fl_X9_150 rfl rfl rfl (Nat.le_of_ble_eq_true rfl) dX9_takes_24 (w2 := (wd_X9 cI cL cS cH a v_keptMany v_done v_rowsOf v_columnsOf v_folded v_wronged v_tapeMany v_textMany v_base y_5 v_ends v_fault v_opened v_bentMany v_bentWrong v_moreWorn v_planned v_allWrong v_allWorn v_z v_wishedField v_isFound v_bestWrong v_bestWorn v_bestMany v_soughtBy v_sought v_soughtAt v_foundMany v_foundOrder v_isKept v_imageRows v_imageColumns v_imageFolded v_imageWronged v_bodies v_ran v_ownKind v_ownNumber v_limit v_changeWas v_changeIs v_shapeRows v_shapeColumns v_row v_column v_below v_face v_worn v_lastBend v_tape v_text v_names v_bends v_high v_to v_pileSize v_planLine v_planWay v_way1 v_bestWay v_order1 v_placeIn v_bodyKind v_trace v_shelf v_many v_items v_carried)) rfl (fun H locs hP hD hS => ?_)
      refine lv_iconst (v := 1) hx hb dX9_takes_27 (by decide) ?_
      apply mm_sub2 hf
      exact mm_zret (v := true) C0 hP hD hS dX9_takes_28 (by decide)
    · have hf := mm_in hf c_4
      refine lv_iconst (v := 0) hx hb dX9_takes_15 (by decide) ?_
      apply mm_sub2 hf
      exact mm_zret (v := false) C0 hP hD hS dX9_takes_16 (by decide)

theorem dX9_nameOf_1 : decode cX9_nameOf 1 = .ok (.lookupswitch 71 #[(98, 69), (102, 67), (107, 65), (110, 59), (114, 63), (119, 61)], 59) := by decide +kernel
theorem nb_dX9_nameOf_0 : bls_w cX9_nameOf [(0, [26]), (60, [3]), (61, [172]), (62, [4]), (63, [172]), (64, [5]), (65, [172]), (66, [6]), (67, [172]), (68, [7]), (69, [172]), (70, [8])] := bls_of (by decide +kernel)
theorem dX9_nameOf_0 : decode cX9_nameOf 0 = .ok (.iload_n 0, 1) := op_26 nb_dX9_nameOf_0.1
theorem dX9_nameOf_60 : decode cX9_nameOf 60 = .ok (.iconst 0, 1) := op_3 nb_dX9_nameOf_0.2.1
theorem dX9_nameOf_61 : decode cX9_nameOf 61 = .ok (.ireturn, 1) := op_172 nb_dX9_nameOf_0.2.2.1
theorem dX9_nameOf_62 : decode cX9_nameOf 62 = .ok (.iconst 1, 1) := op_4 nb_dX9_nameOf_0.2.2.2.1
theorem dX9_nameOf_63 : decode cX9_nameOf 63 = .ok (.ireturn, 1) := op_172 nb_dX9_nameOf_0.2.2.2.2.1
theorem dX9_nameOf_64 : decode cX9_nameOf 64 = .ok (.iconst 2, 1) := op_5 nb_dX9_nameOf_0.2.2.2.2.2.1
theorem dX9_nameOf_65 : decode cX9_nameOf 65 = .ok (.ireturn, 1) := op_172 nb_dX9_nameOf_0.2.2.2.2.2.2.1
theorem dX9_nameOf_66 : decode cX9_nameOf 66 = .ok (.iconst 3, 1) := op_6 nb_dX9_nameOf_0.2.2.2.2.2.2.2.1
theorem dX9_nameOf_67 : decode cX9_nameOf 67 = .ok (.ireturn, 1) := op_172 nb_dX9_nameOf_0.2.2.2.2.2.2.2.2.1
theorem dX9_nameOf_68 : decode cX9_nameOf 68 = .ok (.iconst 4, 1) := op_7 nb_dX9_nameOf_0.2.2.2.2.2.2.2.2.2.1
theorem dX9_nameOf_69 : decode cX9_nameOf 69 = .ok (.ireturn, 1) := op_172 nb_dX9_nameOf_0.2.2.2.2.2.2.2.2.2.2.1
theorem dX9_nameOf_70 : decode cX9_nameOf 70 = .ok (.iconst 5, 1) := op_8 nb_dX9_nameOf_0.2.2.2.2.2.2.2.2.2.2.2.1
theorem nb_dX9_nameOf_71 : bls_w cX9_nameOf [(71, [172]), (72, [2]), (73, [172])] := bls_of (by decide +kernel)
theorem dX9_nameOf_71 : decode cX9_nameOf 71 = .ok (.ireturn, 1) := op_172 nb_dX9_nameOf_71.1
theorem dX9_nameOf_72 : decode cX9_nameOf 72 = .ok (.iconst (-1), 1) := op_2 nb_dX9_nameOf_71.2.1
theorem dX9_nameOf_73 : decode cX9_nameOf 73 = .ok (.ireturn, 1) := op_172 nb_dX9_nameOf_71.2.2.1
def fX9_nameOf (N : Nat) (x0 : Int32) : Option (Int32) :=
    if x0 = (98 : Int32) then
    (some ((5 : Int32)))
    else (if x0 = (102 : Int32) then
    (some ((4 : Int32)))
    else (if x0 = (107 : Int32) then
    (some ((3 : Int32)))
    else (if x0 = (110 : Int32) then
    (some ((0 : Int32)))
    else (if x0 = (114 : Int32) then
    (some ((2 : Int32)))
    else (if x0 = (119 : Int32) then
    (some ((1 : Int32)))
    else (some ((-1 : Int32))))))))

set_option maxHeartbeats 4000000 in
set_option maxRecDepth 100000 in
theorem ctX9_nameOf {l : Launch} {D : va_G} {cI cL cS cH : ClassId} {x0 : Int32}  {r : Int32} {N d : Nat} (hd : 1 ≤ d) (hf : fX9_nameOf N x0 = some r) : mm_Ct l yX9_nameOf cX9_nameOf 1 (some .int) d D (mm_T cI cL cS cH) [.int x0] ([] : va_W) ([] : va_W) (some (.int r)) := by
  refine mm_of (by decide) (Nat.le_of_ble_eq_true rfl) ?_
  intro p e s m args below meth c A H locs ls C0 hP hD hA hS hl
  have C0 : mm_Cx p s m args meth c RX9 cX9_nameOf 1 (some .int) D (mm_T cI cL cS cH) A := C0
  obtain ⟨hx, hb, hml, hown, hts, hr, hlocks, hK, hSt⟩ := id C0
  have hl : lv_has ls 1 [(0, .int x0)] := hl
  unfold fX9_nameOf at hf
  refine lv_iload_n hx hb dX9_nameOf_0 rfl (lv_at hl 0 rfl) ?_
  by_cases c_1 : x0 = (98 : Int32)
  · have hf := mm_ip hf c_1
    refine lv_lookup (off := 69) (tgt := 70) hx hb dX9_nameOf_1 (by decide) (by rw [c_1]; first | done | rfl | decide) (by decide) ?_
    refine lv_iconst (v := 5) hx hb dX9_nameOf_70 (by decide) ?_
    obtain rfl := mm_inj1 hf
    exact mm_iret C0 hP hD hS dX9_nameOf_71
  · have hf := mm_in hf c_1
    by_cases c_2 : x0 = (102 : Int32)
    · have hf := mm_ip hf c_2
      refine lv_lookup (off := 67) (tgt := 68) hx hb dX9_nameOf_1 (by decide) (by rw [c_2]; first | done | rfl | decide) (by decide) ?_
      refine lv_iconst (v := 4) hx hb dX9_nameOf_68 (by decide) ?_
      obtain rfl := mm_inj1 hf
      exact mm_iret C0 hP hD hS dX9_nameOf_69
    · have hf := mm_in hf c_2
      by_cases c_3 : x0 = (107 : Int32)
      · have hf := mm_ip hf c_3
        refine lv_lookup (off := 65) (tgt := 66) hx hb dX9_nameOf_1 (by decide) (by rw [c_3]; first | done | rfl | decide) (by decide) ?_
        refine lv_iconst (v := 3) hx hb dX9_nameOf_66 (by decide) ?_
        obtain rfl := mm_inj1 hf
        exact mm_iret C0 hP hD hS dX9_nameOf_67
      · have hf := mm_in hf c_3
        by_cases c_4 : x0 = (110 : Int32)
        · have hf := mm_ip hf c_4
          refine lv_lookup (off := 59) (tgt := 60) hx hb dX9_nameOf_1 (by decide) (by rw [c_4]; first | done | rfl | decide) (by decide) ?_
          refine lv_iconst (v := 0) hx hb dX9_nameOf_60 (by decide) ?_
          obtain rfl := mm_inj1 hf
          exact mm_iret C0 hP hD hS dX9_nameOf_61
        · have hf := mm_in hf c_4
          by_cases c_5 : x0 = (114 : Int32)
          · have hf := mm_ip hf c_5
            refine lv_lookup (off := 63) (tgt := 64) hx hb dX9_nameOf_1 (by decide) (by rw [c_5]; first | done | rfl | decide) (by decide) ?_
            refine lv_iconst (v := 2) hx hb dX9_nameOf_64 (by decide) ?_
            obtain rfl := mm_inj1 hf
            exact mm_iret C0 hP hD hS dX9_nameOf_65
          · have hf := mm_in hf c_5
            by_cases c_6 : x0 = (119 : Int32)
            · have hf := mm_ip hf c_6
              refine lv_lookup (off := 61) (tgt := 62) hx hb dX9_nameOf_1 (by decide) (by rw [c_6]; first | done | rfl | decide) (by decide) ?_
              refine lv_iconst (v := 1) hx hb dX9_nameOf_62 (by decide) ?_
              obtain rfl := mm_inj1 hf
              exact mm_iret C0 hP hD hS dX9_nameOf_63
            · have hf := mm_in hf c_6
              refine lv_lookup (off := 71) (tgt := 72) hx hb dX9_nameOf_1 (by decide) ((lv_osw c_1 (by decide)).trans ((lv_osw c_2 (by decide)).trans ((lv_osw c_3 (by decide)).trans ((lv_osw c_4 (by decide)).trans ((lv_osw c_5 (by decide)).trans ((lv_osw c_6 (by decide)).trans (rfl))))))) (by decide) ?_
              refine lv_iconst (v := -1) hx hb dX9_nameOf_72 (by decide) ?_
              obtain rfl := mm_inj1 hf
              exact mm_iret C0 hP hD hS dX9_nameOf_73

theorem nb_dX9_product_0 : bls_w cX9_product [(0, [42]), (1, [182, 0, 181]), (4, [60]), (5, [42]), (6, [182, 0, 162]), (9, [61]), (10, [42]), (11, [180, 0, 159]), (14, [156, 0, 80]), (17, [28]), (18, [16, 42]), (20, [159, 0, 15])] := bls_of (by decide +kernel)
theorem dX9_product_0 : decode cX9_product 0 = .ok (.aload_n 0, 1) := op_42 nb_dX9_product_0.1
set_option maxRecDepth 100000 in
theorem dX9_product_1 : decode cX9_product 1 = .ok (.invokevirtual 181, 3) := (op_182 nb_dX9_product_0.2.1).trans rfl
theorem dX9_product_4 : decode cX9_product 4 = .ok (.istore_n 1, 1) := op_60 nb_dX9_product_0.2.2.1
theorem dX9_product_5 : decode cX9_product 5 = .ok (.aload_n 0, 1) := op_42 nb_dX9_product_0.2.2.2.1
set_option maxRecDepth 100000 in
theorem dX9_product_6 : decode cX9_product 6 = .ok (.invokevirtual 162, 3) := (op_182 nb_dX9_product_0.2.2.2.2.1).trans rfl
theorem dX9_product_9 : decode cX9_product 9 = .ok (.istore_n 2, 1) := op_61 nb_dX9_product_0.2.2.2.2.2.1
theorem dX9_product_10 : decode cX9_product 10 = .ok (.aload_n 0, 1) := op_42 nb_dX9_product_0.2.2.2.2.2.2.1
set_option maxRecDepth 100000 in
theorem dX9_product_11 : decode cX9_product 11 = .ok (.getfield 159, 3) := (op_180 nb_dX9_product_0.2.2.2.2.2.2.2.1).trans rfl
set_option maxRecDepth 100000 in
theorem dX9_product_14 : decode cX9_product 14 = .ok (.ifCond .ge 80, 3) := (op_156 nb_dX9_product_0.2.2.2.2.2.2.2.2.1).trans rfl
theorem dX9_product_17 : decode cX9_product 17 = .ok (.iload_n 2, 1) := op_28 nb_dX9_product_0.2.2.2.2.2.2.2.2.2.1
set_option maxRecDepth 100000 in
theorem dX9_product_18 : decode cX9_product 18 = .ok (.bipush 42, 2) := (op_16 nb_dX9_product_0.2.2.2.2.2.2.2.2.2.2.1).trans rfl
set_option maxRecDepth 100000 in
theorem dX9_product_20 : decode cX9_product 20 = .ok (.if_icmp .eq 15, 3) := (op_159 nb_dX9_product_0.2.2.2.2.2.2.2.2.2.2.2.1).trans rfl
theorem nb_dX9_product_23 : bls_w cX9_product [(23, [28]), (24, [16, 47]), (26, [159, 0, 9]), (29, [28]), (30, [16, 37]), (32, [160, 0, 62]), (35, [42]), (36, [89]), (37, [180, 0, 150]), (40, [4]), (41, [96]), (42, [181, 0, 150])] := bls_of (by decide +kernel)
theorem dX9_product_23 : decode cX9_product 23 = .ok (.iload_n 2, 1) := op_28 nb_dX9_product_23.1
set_option maxRecDepth 100000 in
theorem dX9_product_24 : decode cX9_product 24 = .ok (.bipush 47, 2) := (op_16 nb_dX9_product_23.2.1).trans rfl
set_option maxRecDepth 100000 in
theorem dX9_product_26 : decode cX9_product 26 = .ok (.if_icmp .eq 9, 3) := (op_159 nb_dX9_product_23.2.2.1).trans rfl
theorem dX9_product_29 : decode cX9_product 29 = .ok (.iload_n 2, 1) := op_28 nb_dX9_product_23.2.2.2.1
set_option maxRecDepth 100000 in
theorem dX9_product_30 : decode cX9_product 30 = .ok (.bipush 37, 2) := (op_16 nb_dX9_product_23.2.2.2.2.1).trans rfl
set_option maxRecDepth 100000 in
theorem dX9_product_32 : decode cX9_product 32 = .ok (.if_icmp .ne 62, 3) := (op_160 nb_dX9_product_23.2.2.2.2.2.1).trans rfl
theorem dX9_product_35 : decode cX9_product 35 = .ok (.aload_n 0, 1) := op_42 nb_dX9_product_23.2.2.2.2.2.2.1
theorem dX9_product_36 : decode cX9_product 36 = .ok (.dup, 1) := op_89 nb_dX9_product_23.2.2.2.2.2.2.2.1
set_option maxRecDepth 100000 in
theorem dX9_product_37 : decode cX9_product 37 = .ok (.getfield 150, 3) := (op_180 nb_dX9_product_23.2.2.2.2.2.2.2.2.1).trans rfl
theorem dX9_product_40 : decode cX9_product 40 = .ok (.iconst 1, 1) := op_4 nb_dX9_product_23.2.2.2.2.2.2.2.2.2.1
theorem dX9_product_41 : decode cX9_product 41 = .ok (.iadd, 1) := op_96 nb_dX9_product_23.2.2.2.2.2.2.2.2.2.2.1
set_option maxRecDepth 100000 in
theorem dX9_product_42 : decode cX9_product 42 = .ok (.putfield 150, 3) := (op_181 nb_dX9_product_23.2.2.2.2.2.2.2.2.2.2.2.1).trans rfl
theorem nb_dX9_product_45 : bls_w cX9_product [(45, [42]), (46, [182, 0, 181]), (49, [62]), (50, [28]), (51, [16, 42]), (53, [160, 0, 9]), (56, [27]), (57, [29]), (58, [104]), (59, [167, 0, 26]), (62, [29]), (63, [154, 0, 7])] := bls_of (by decide +kernel)
theorem dX9_product_45 : decode cX9_product 45 = .ok (.aload_n 0, 1) := op_42 nb_dX9_product_45.1
set_option maxRecDepth 100000 in
theorem dX9_product_46 : decode cX9_product 46 = .ok (.invokevirtual 181, 3) := (op_182 nb_dX9_product_45.2.1).trans rfl
theorem dX9_product_49 : decode cX9_product 49 = .ok (.istore_n 3, 1) := op_62 nb_dX9_product_45.2.2.1
theorem dX9_product_50 : decode cX9_product 50 = .ok (.iload_n 2, 1) := op_28 nb_dX9_product_45.2.2.2.1
set_option maxRecDepth 100000 in
theorem dX9_product_51 : decode cX9_product 51 = .ok (.bipush 42, 2) := (op_16 nb_dX9_product_45.2.2.2.2.1).trans rfl
set_option maxRecDepth 100000 in
theorem dX9_product_53 : decode cX9_product 53 = .ok (.if_icmp .ne 9, 3) := (op_160 nb_dX9_product_45.2.2.2.2.2.1).trans rfl
theorem dX9_product_56 : decode cX9_product 56 = .ok (.iload_n 1, 1) := op_27 nb_dX9_product_45.2.2.2.2.2.2.1
theorem dX9_product_57 : decode cX9_product 57 = .ok (.iload_n 3, 1) := op_29 nb_dX9_product_45.2.2.2.2.2.2.2.1
theorem dX9_product_58 : decode cX9_product 58 = .ok (.imul, 1) := op_104 nb_dX9_product_45.2.2.2.2.2.2.2.2.1
set_option maxRecDepth 100000 in
theorem dX9_product_59 : decode cX9_product 59 = .ok (.goto 26, 3) := (op_167 nb_dX9_product_45.2.2.2.2.2.2.2.2.2.1).trans rfl
theorem dX9_product_62 : decode cX9_product 62 = .ok (.iload_n 3, 1) := op_29 nb_dX9_product_45.2.2.2.2.2.2.2.2.2.2.1
set_option maxRecDepth 100000 in
theorem dX9_product_63 : decode cX9_product 63 = .ok (.ifCond .ne 7, 3) := (op_154 nb_dX9_product_45.2.2.2.2.2.2.2.2.2.2.2.1).trans rfl
theorem nb_dX9_product_66 : bls_w cX9_product [(66, [3]), (67, [167, 0, 18]), (70, [28]), (71, [16, 47]), (73, [160, 0, 9]), (76, [27]), (77, [29]), (78, [108]), (79, [167, 0, 6]), (82, [27]), (83, [29]), (84, [112])] := bls_of (by decide +kernel)
theorem dX9_product_66 : decode cX9_product 66 = .ok (.iconst 0, 1) := op_3 nb_dX9_product_66.1
set_option maxRecDepth 100000 in
theorem dX9_product_67 : decode cX9_product 67 = .ok (.goto 18, 3) := (op_167 nb_dX9_product_66.2.1).trans rfl
theorem dX9_product_70 : decode cX9_product 70 = .ok (.iload_n 2, 1) := op_28 nb_dX9_product_66.2.2.1
set_option maxRecDepth 100000 in
theorem dX9_product_71 : decode cX9_product 71 = .ok (.bipush 47, 2) := (op_16 nb_dX9_product_66.2.2.2.1).trans rfl
set_option maxRecDepth 100000 in
theorem dX9_product_73 : decode cX9_product 73 = .ok (.if_icmp .ne 9, 3) := (op_160 nb_dX9_product_66.2.2.2.2.1).trans rfl
theorem dX9_product_76 : decode cX9_product 76 = .ok (.iload_n 1, 1) := op_27 nb_dX9_product_66.2.2.2.2.2.1
theorem dX9_product_77 : decode cX9_product 77 = .ok (.iload_n 3, 1) := op_29 nb_dX9_product_66.2.2.2.2.2.2.1
theorem dX9_product_78 : decode cX9_product 78 = .ok (.idiv, 1) := op_108 nb_dX9_product_66.2.2.2.2.2.2.2.1
set_option maxRecDepth 100000 in
theorem dX9_product_79 : decode cX9_product 79 = .ok (.goto 6, 3) := (op_167 nb_dX9_product_66.2.2.2.2.2.2.2.2.1).trans rfl
theorem dX9_product_82 : decode cX9_product 82 = .ok (.iload_n 1, 1) := op_27 nb_dX9_product_66.2.2.2.2.2.2.2.2.2.1
theorem dX9_product_83 : decode cX9_product 83 = .ok (.iload_n 3, 1) := op_29 nb_dX9_product_66.2.2.2.2.2.2.2.2.2.2.1
theorem dX9_product_84 : decode cX9_product 84 = .ok (.irem, 1) := op_112 nb_dX9_product_66.2.2.2.2.2.2.2.2.2.2.2.1
theorem nb_dX9_product_85 : bls_w cX9_product [(85, [60]), (86, [42]), (87, [182, 0, 162]), (90, [61]), (91, [167, 255, 175]), (94, [27]), (95, [172])] := bls_of (by decide +kernel)
theorem dX9_product_85 : decode cX9_product 85 = .ok (.istore_n 1, 1) := op_60 nb_dX9_product_85.1
theorem dX9_product_86 : decode cX9_product 86 = .ok (.aload_n 0, 1) := op_42 nb_dX9_product_85.2.1
set_option maxRecDepth 100000 in
theorem dX9_product_87 : decode cX9_product 87 = .ok (.invokevirtual 162, 3) := (op_182 nb_dX9_product_85.2.2.1).trans rfl
theorem dX9_product_90 : decode cX9_product 90 = .ok (.istore_n 2, 1) := op_61 nb_dX9_product_85.2.2.2.1
set_option maxRecDepth 100000 in
theorem dX9_product_91 : decode cX9_product 91 = .ok (.goto (-81), 3) := (op_167 nb_dX9_product_85.2.2.2.2.1).trans rfl
theorem dX9_product_94 : decode cX9_product 94 = .ok (.iload_n 1, 1) := op_27 nb_dX9_product_85.2.2.2.2.2.1
theorem dX9_product_95 : decode cX9_product 95 = .ok (.ireturn, 1) := op_172 nb_dX9_product_85.2.2.2.2.2.2.1
def fX9_product_85 (N : Nat) (go : Int32 → Int32 → Int32 → Int32 → Int32 → List Int32 → List Int32 → List Int32 → Option (Int32 × Int32 × Int32 × Int32)) (k_10 : Int32 → Int32 → Int32 → Int32 → Int32 → Int32 → Int32 → List Int32 → List Int32 → List Int32 → Option (Int32 × Int32 × Int32 × Int32)) (s0 : Int32) (v_base : Int32) (v_at : Int32) (v_ends : Int32) (v_fault : Int32) (v_opened : Int32) (v_tape : List Int32) (v_text : List Int32) (v_names : List Int32) : Option (Int32 × Int32 × Int32 × Int32) :=
    mm_bd1 (fX9_byteAt N v_base v_at v_ends v_tape v_text) (fun (r_23 : Int32) =>
    k_10 s0 r_23 v_base v_at v_ends v_fault v_opened v_tape v_text v_names)

set_option maxHeartbeats 4000000 in
set_option maxRecDepth 100000 in
theorem tX9_product_85 {p : Program} {l : Launch} {e : Env} {s : State} {m : MethodId} {args : Array Value} {below : List Frame} {meth : Method} {c : Code} {D : va_G} {cI cL cS cH : ClassId} {A : Nat → Prop} {d : Nat} {a : Nat → Nat} {go : Int32 → Int32 → Int32 → Int32 → Int32 → List Int32 → List Int32 → List Int32 → Option (Int32 × Int32 × Int32 × Int32)} {dgo : Nat} (hgo : ∀ (a : Nat → Nat) (v_keptMany : Int32) (v_done : Int32) (v_rowsOf : Int32) (v_columnsOf : Int32) (v_folded : Int32) (v_wronged : Int32) (v_tapeMany : Int32) (v_textMany : Int32) (v_base : Int32) (v_at : Int32) (v_ends : Int32) (v_fault : Int32) (v_opened : Int32) (v_bentMany : Int32) (v_bentWrong : Int32) (v_moreWorn : Int32) (v_planned : Int32) (v_allWrong : Int32) (v_allWorn : Int32) (v_z : Int32) (v_wishedField : Int32) (v_isFound : Bool) (v_bestWrong : Int32) (v_bestWorn : Int32) (v_bestMany : Int32) (v_soughtBy : Int32) (v_sought : Int32) (v_soughtAt : Int32) (v_foundMany : Int32) (v_foundOrder : Int32) (v_isKept : Bool) (v_imageRows : Int32) (v_imageColumns : Int32) (v_imageFolded : Int32) (v_imageWronged : Int32) (v_bodies : Int32) (v_ran : Int32) (v_ownKind : Int32) (v_ownNumber : Int32) (v_limit : List Int32) (v_changeWas : List Int32) (v_changeIs : List Int32) (v_shapeRows : List Int32) (v_shapeColumns : List Int32) (v_row : List Int32) (v_column : List Int32) (v_below : List Int32) (v_face : List Int32) (v_worn : List Int32) (v_lastBend : List Int32) (v_tape : List Int32) (v_text : List Int32) (v_names : List Int32) (v_bends : List Int32) (v_high : List Int32) (v_to : List Int32) (v_pileSize : List Int32) (v_planLine : List Int32) (v_planWay : List Int32) (v_way1 : List Int32) (v_bestWay : List Int32) (v_order1 : List Int32) (v_placeIn : List Int32) (v_bodyKind : List Int32) (v_trace : List Int32) (v_shelf : List Int32) (v_many : List Int32) (v_items : List Int64) (v_carried : List Int64) (r : Int32) (w_at : Int32) (w_fault : Int32) (w_opened : Int32), go v_base v_at v_ends v_fault v_opened v_tape v_text v_names = some (r, w_at, w_fault, w_opened) → mm_Ct l yX9_one cX9_one 5 (some .int) dgo D (mm_T cI cL cS cH) [.ref (a 0)] (wd_X9 cI cL cS cH a v_keptMany v_done v_rowsOf v_columnsOf v_folded v_wronged v_tapeMany v_textMany v_base v_at v_ends v_fault v_opened v_bentMany v_bentWrong v_moreWorn v_planned v_allWrong v_allWorn v_z v_wishedField v_isFound v_bestWrong v_bestWorn v_bestMany v_soughtBy v_sought v_soughtAt v_foundMany v_foundOrder v_isKept v_imageRows v_imageColumns v_imageFolded v_imageWronged v_bodies v_ran v_ownKind v_ownNumber v_limit v_changeWas v_changeIs v_shapeRows v_shapeColumns v_row v_column v_below v_face v_worn v_lastBend v_tape v_text v_names v_bends v_high v_to v_pileSize v_planLine v_planWay v_way1 v_bestWay v_order1 v_placeIn v_bodyKind v_trace v_shelf v_many v_items v_carried) (wd_X9 cI cL cS cH a v_keptMany v_done v_rowsOf v_columnsOf v_folded v_wronged v_tapeMany v_textMany v_base w_at v_ends w_fault w_opened v_bentMany v_bentWrong v_moreWorn v_planned v_allWrong v_allWorn v_z v_wishedField v_isFound v_bestWrong v_bestWorn v_bestMany v_soughtBy v_sought v_soughtAt v_foundMany v_foundOrder v_isKept v_imageRows v_imageColumns v_imageFolded v_imageWronged v_bodies v_ran v_ownKind v_ownNumber v_limit v_changeWas v_changeIs v_shapeRows v_shapeColumns v_row v_column v_below v_face v_worn v_lastBend v_tape v_text v_names v_bends v_high v_to v_pileSize v_planLine v_planWay v_way1 v_bestWay v_order1 v_placeIn v_bodyKind v_trace v_shelf v_many v_items v_carried) (some (.int r))) (hE : 2 ≤ dgo) (hd : dgo + 1 ≤ d) (C0 : mm_Cx p s m args meth c RX9 cX9_product 4 (some .int) D (mm_T cI cL cS cH) A) (hA : ∀ q, s.heap.size ≤ q → A q) {v_keptMany : Int32} {v_done : Int32} {v_rowsOf : Int32} {v_columnsOf : Int32} {v_folded : Int32} {v_wronged : Int32} {v_tapeMany : Int32} {v_textMany : Int32} {v_bentMany : Int32} {v_bentWrong : Int32} {v_moreWorn : Int32} {v_planned : Int32} {v_allWrong : Int32} {v_allWorn : Int32} {v_z : Int32} {v_wishedField : Int32} {v_isFound : Bool} {v_bestWrong : Int32} {v_bestWorn : Int32} {v_bestMany : Int32} {v_soughtBy : Int32} {v_sought : Int32} {v_soughtAt : Int32} {v_foundMany : Int32} {v_foundOrder : Int32} {v_isKept : Bool} {v_imageRows : Int32} {v_imageColumns : Int32} {v_imageFolded : Int32} {v_imageWronged : Int32} {v_bodies : Int32} {v_ran : Int32} {v_ownKind : Int32} {v_ownNumber : Int32} {v_limit : List Int32} {v_changeWas : List Int32} {v_changeIs : List Int32} {v_shapeRows : List Int32} {v_shapeColumns : List Int32} {v_row : List Int32} {v_column : List Int32} {v_below : List Int32} {v_face : List Int32} {v_worn : List Int32} {v_lastBend : List Int32} {v_bends : List Int32} {v_high : List Int32} {v_to : List Int32} {v_pileSize : List Int32} {v_planLine : List Int32} {v_planWay : List Int32} {v_way1 : List Int32} {v_bestWay : List Int32} {v_order1 : List Int32} {v_placeIn : List Int32} {v_bodyKind : List Int32} {v_trace : List Int32} {v_shelf : List Int32} {v_many : List Int32} {v_items : List Int64} {v_carried : List Int64} {r : Int32} {w_at : Int32} {w_fault : Int32} {w_opened : Int32} (N : Nat) {k_10 : Int32 → Int32 → Int32 → Int32 → Int32 → Int32 → Int32 → List Int32 → List Int32 → List Int32 → Option (Int32 × Int32 × Int32 × Int32)} (hk_10 : ∀ (x1 : Int32) (x2 : Int32) (v_base : Int32) (v_at : Int32) (v_ends : Int32) (v_fault : Int32) (v_opened : Int32) (v_tape : List Int32) (v_text : List Int32) (v_names : List Int32) (H : Heap) (locs : List Loc) (ls : Array Slot), k_10 x1 x2 v_base v_at v_ends v_fault v_opened v_tape v_text v_names = some (r, w_at, w_fault, w_opened) → va_P D mm_cl (wd_X9 cI cL cS cH a v_keptMany v_done v_rowsOf v_columnsOf v_folded v_wronged v_tapeMany v_textMany v_base v_at v_ends v_fault v_opened v_bentMany v_bentWrong v_moreWorn v_planned v_allWrong v_allWorn v_z v_wishedField v_isFound v_bestWrong v_bestWorn v_bestMany v_soughtBy v_sought v_soughtAt v_foundMany v_foundOrder v_isKept v_imageRows v_imageColumns v_imageFolded v_imageWronged v_bodies v_ran v_ownKind v_ownNumber v_limit v_changeWas v_changeIs v_shapeRows v_shapeColumns v_row v_column v_below v_face v_worn v_lastBend v_tape v_text v_names v_bends v_high v_to v_pileSize v_planLine v_planWay v_way1 v_bestWay v_order1 v_placeIn v_bodyKind v_trace v_shelf v_many v_items v_carried) H → va_D A (wd_X9 cI cL cS cH a v_keptMany v_done v_rowsOf v_columnsOf v_folded v_wronged v_tapeMany v_textMany v_base v_at v_ends v_fault v_opened v_bentMany v_bentWrong v_moreWorn v_planned v_allWrong v_allWorn v_z v_wishedField v_isFound v_bestWrong v_bestWorn v_bestMany v_soughtBy v_sought v_soughtAt v_foundMany v_foundOrder v_isKept v_imageRows v_imageColumns v_imageFolded v_imageWronged v_bodies v_ran v_ownKind v_ownNumber v_limit v_changeWas v_changeIs v_shapeRows v_shapeColumns v_row v_column v_below v_face v_worn v_lastBend v_tape v_text v_names v_bends v_high v_to v_pileSize v_planLine v_planWay v_way1 v_bestWay v_order1 v_placeIn v_bodyKind v_trace v_shelf v_many v_items v_carried) → va_S A s.heap H locs → lv_has ls 4 [(0, .ref (a 0)), (1, .int x1), (2, .int x2)] → W p l e (mm_rr d) s m args below meth c H locs 0 0 (mm_Z below D A (wd_X9 cI cL cS cH a v_keptMany v_done v_rowsOf v_columnsOf v_folded v_wronged v_tapeMany v_textMany v_base w_at v_ends w_fault w_opened v_bentMany v_bentWrong v_moreWorn v_planned v_allWrong v_allWorn v_z v_wishedField v_isFound v_bestWrong v_bestWorn v_bestMany v_soughtBy v_sought v_soughtAt v_foundMany v_foundOrder v_isKept v_imageRows v_imageColumns v_imageFolded v_imageWronged v_bodies v_ran v_ownKind v_ownNumber v_limit v_changeWas v_changeIs v_shapeRows v_shapeColumns v_row v_column v_below v_face v_worn v_lastBend v_tape v_text v_names v_bends v_high v_to v_pileSize v_planLine v_planWay v_way1 v_bestWay v_order1 v_placeIn v_bodyKind v_trace v_shelf v_many v_items v_carried) (some (.int r)) args s) (F0 m 10 ls [])) : ∀ (s0 : Int32) (v_base : Int32) (v_at : Int32) (v_ends : Int32) (v_fault : Int32) (v_opened : Int32) (v_tape : List Int32) (v_text : List Int32) (v_names : List Int32) (H : Heap) (locs : List Loc) (ls : Array Slot), fX9_product_85 N go k_10 s0 v_base v_at v_ends v_fault v_opened v_tape v_text v_names = some (r, w_at, w_fault, w_opened) → va_P D mm_cl (wd_X9 cI cL cS cH a v_keptMany v_done v_rowsOf v_columnsOf v_folded v_wronged v_tapeMany v_textMany v_base v_at v_ends v_fault v_opened v_bentMany v_bentWrong v_moreWorn v_planned v_allWrong v_allWorn v_z v_wishedField v_isFound v_bestWrong v_bestWorn v_bestMany v_soughtBy v_sought v_soughtAt v_foundMany v_foundOrder v_isKept v_imageRows v_imageColumns v_imageFolded v_imageWronged v_bodies v_ran v_ownKind v_ownNumber v_limit v_changeWas v_changeIs v_shapeRows v_shapeColumns v_row v_column v_below v_face v_worn v_lastBend v_tape v_text v_names v_bends v_high v_to v_pileSize v_planLine v_planWay v_way1 v_bestWay v_order1 v_placeIn v_bodyKind v_trace v_shelf v_many v_items v_carried) H → va_D A (wd_X9 cI cL cS cH a v_keptMany v_done v_rowsOf v_columnsOf v_folded v_wronged v_tapeMany v_textMany v_base v_at v_ends v_fault v_opened v_bentMany v_bentWrong v_moreWorn v_planned v_allWrong v_allWorn v_z v_wishedField v_isFound v_bestWrong v_bestWorn v_bestMany v_soughtBy v_sought v_soughtAt v_foundMany v_foundOrder v_isKept v_imageRows v_imageColumns v_imageFolded v_imageWronged v_bodies v_ran v_ownKind v_ownNumber v_limit v_changeWas v_changeIs v_shapeRows v_shapeColumns v_row v_column v_below v_face v_worn v_lastBend v_tape v_text v_names v_bends v_high v_to v_pileSize v_planLine v_planWay v_way1 v_bestWay v_order1 v_placeIn v_bodyKind v_trace v_shelf v_many v_items v_carried) → va_S A s.heap H locs → lv_has ls 4 [(0, .ref (a 0))] → W p l e (mm_rr d) s m args below meth c H locs 0 0 (mm_Z below D A (wd_X9 cI cL cS cH a v_keptMany v_done v_rowsOf v_columnsOf v_folded v_wronged v_tapeMany v_textMany v_base w_at v_ends w_fault w_opened v_bentMany v_bentWrong v_moreWorn v_planned v_allWrong v_allWorn v_z v_wishedField v_isFound v_bestWrong v_bestWorn v_bestMany v_soughtBy v_sought v_soughtAt v_foundMany v_foundOrder v_isKept v_imageRows v_imageColumns v_imageFolded v_imageWronged v_bodies v_ran v_ownKind v_ownNumber v_limit v_changeWas v_changeIs v_shapeRows v_shapeColumns v_row v_column v_below v_face v_worn v_lastBend v_tape v_text v_names v_bends v_high v_to v_pileSize v_planLine v_planWay v_way1 v_bestWay v_order1 v_placeIn v_bodyKind v_trace v_shelf v_many v_items v_carried) (some (.int r)) args s) (F0 m 85 ls [.int s0]) := by
  obtain ⟨hx, hb, hml, hown, hts, hr, hlocks, hK, hSt⟩ := id C0
  intro s0 v_base v_at v_ends v_fault v_opened v_tape v_text v_names H locs ls hf hP hD hS hl
  unfold fX9_product_85 at hf
  refine lv_istore_n (lv' := [(1, .int s0), (0, .ref (a 0))]) hx hb dX9_product_85 rfl hl (by decide) rfl (fun ls hl => ?_)
  refine lv_aload_n hx hb dX9_product_86 rfl (lv_at hl 1 rfl) ?_
  obtain ⟨r_23, hc_24, hf⟩ := mm_bd1s hf
  refine mm_callVF (q0 := 0) (ci := 9) (rest := []) C0 lk_X9_162 (ctX9_byteAt (a := a) (d := d - 1) (by omega) hc_24) (by omega) rfl hl.1 rfl (mm_cat rfl) dX9_product_87 hP hD hA hS rfl rfl (fun H locs hP hD hS => ?_)
  refine W.eq (g2 := F0 m 90 ls [.int r_23]) rfl ?_
  refine lv_istore_n (lv' := [(2, .int r_23), (1, .int s0), (0, .ref (a 0))]) hx hb dX9_product_90 rfl hl (by decide) rfl (fun ls hl => ?_)
  refine lv_goto (tgt := 10) hx hb dX9_product_91 (by decide) ?_
  exact hk_10 _ _ _ _ _ _ _ _ _ _ H locs ls hf hP hD hS (lv_sub hl [2, 1, 0] rfl)

def fX9_product_35 (N : Nat) (go : Int32 → Int32 → Int32 → Int32 → Int32 → List Int32 → List Int32 → List Int32 → Option (Int32 × Int32 × Int32 × Int32)) (k_10 : Int32 → Int32 → Int32 → Int32 → Int32 → Int32 → Int32 → List Int32 → List Int32 → List Int32 → Option (Int32 × Int32 × Int32 × Int32)) (x1 : Int32) (x2 : Int32) (v_base : Int32) (v_at : Int32) (v_ends : Int32) (v_fault : Int32) (v_opened : Int32) (v_tape : List Int32) (v_text : List Int32) (v_names : List Int32) : Option (Int32 × Int32 × Int32 × Int32) :=
    mm_nm ((v_at + (1 : Int32))) (fun (y_12 : Int32) =>
    mm_bd4 (go v_base y_12 v_ends v_fault v_opened v_tape v_text v_names) (fun (r_13 : Int32) (w_14 : Int32) (w_15 : Int32) (w_16 : Int32) =>
    if x2 = (42 : Int32) then
    (fX9_product_85 N go k_10 (x1 * r_13) v_base w_14 v_ends w_15 w_16 v_tape v_text v_names)
    else (if r_13 = 0 then
    (fX9_product_85 N go k_10 (0 : Int32) v_base w_14 v_ends w_15 w_16 v_tape v_text v_names)
    else (if x2 = (47 : Int32) then
    (mm_ck (mm_nz r_13) (fX9_product_85 N go k_10 (x1 / r_13) v_base w_14 v_ends w_15 w_16 v_tape v_text v_names))
    else (mm_ck (mm_nz r_13) (fX9_product_85 N go k_10 (mm_rem x1 r_13) v_base w_14 v_ends w_15 w_16 v_tape v_text v_names))))))

set_option maxHeartbeats 4000000 in
set_option maxRecDepth 100000 in
theorem tX9_product_35 {p : Program} {l : Launch} {e : Env} {s : State} {m : MethodId} {args : Array Value} {below : List Frame} {meth : Method} {c : Code} {D : va_G} {cI cL cS cH : ClassId} {A : Nat → Prop} {d : Nat} {a : Nat → Nat} {go : Int32 → Int32 → Int32 → Int32 → Int32 → List Int32 → List Int32 → List Int32 → Option (Int32 × Int32 × Int32 × Int32)} {dgo : Nat} (hgo : ∀ (a : Nat → Nat) (v_keptMany : Int32) (v_done : Int32) (v_rowsOf : Int32) (v_columnsOf : Int32) (v_folded : Int32) (v_wronged : Int32) (v_tapeMany : Int32) (v_textMany : Int32) (v_base : Int32) (v_at : Int32) (v_ends : Int32) (v_fault : Int32) (v_opened : Int32) (v_bentMany : Int32) (v_bentWrong : Int32) (v_moreWorn : Int32) (v_planned : Int32) (v_allWrong : Int32) (v_allWorn : Int32) (v_z : Int32) (v_wishedField : Int32) (v_isFound : Bool) (v_bestWrong : Int32) (v_bestWorn : Int32) (v_bestMany : Int32) (v_soughtBy : Int32) (v_sought : Int32) (v_soughtAt : Int32) (v_foundMany : Int32) (v_foundOrder : Int32) (v_isKept : Bool) (v_imageRows : Int32) (v_imageColumns : Int32) (v_imageFolded : Int32) (v_imageWronged : Int32) (v_bodies : Int32) (v_ran : Int32) (v_ownKind : Int32) (v_ownNumber : Int32) (v_limit : List Int32) (v_changeWas : List Int32) (v_changeIs : List Int32) (v_shapeRows : List Int32) (v_shapeColumns : List Int32) (v_row : List Int32) (v_column : List Int32) (v_below : List Int32) (v_face : List Int32) (v_worn : List Int32) (v_lastBend : List Int32) (v_tape : List Int32) (v_text : List Int32) (v_names : List Int32) (v_bends : List Int32) (v_high : List Int32) (v_to : List Int32) (v_pileSize : List Int32) (v_planLine : List Int32) (v_planWay : List Int32) (v_way1 : List Int32) (v_bestWay : List Int32) (v_order1 : List Int32) (v_placeIn : List Int32) (v_bodyKind : List Int32) (v_trace : List Int32) (v_shelf : List Int32) (v_many : List Int32) (v_items : List Int64) (v_carried : List Int64) (r : Int32) (w_at : Int32) (w_fault : Int32) (w_opened : Int32), go v_base v_at v_ends v_fault v_opened v_tape v_text v_names = some (r, w_at, w_fault, w_opened) → mm_Ct l yX9_one cX9_one 5 (some .int) dgo D (mm_T cI cL cS cH) [.ref (a 0)] (wd_X9 cI cL cS cH a v_keptMany v_done v_rowsOf v_columnsOf v_folded v_wronged v_tapeMany v_textMany v_base v_at v_ends v_fault v_opened v_bentMany v_bentWrong v_moreWorn v_planned v_allWrong v_allWorn v_z v_wishedField v_isFound v_bestWrong v_bestWorn v_bestMany v_soughtBy v_sought v_soughtAt v_foundMany v_foundOrder v_isKept v_imageRows v_imageColumns v_imageFolded v_imageWronged v_bodies v_ran v_ownKind v_ownNumber v_limit v_changeWas v_changeIs v_shapeRows v_shapeColumns v_row v_column v_below v_face v_worn v_lastBend v_tape v_text v_names v_bends v_high v_to v_pileSize v_planLine v_planWay v_way1 v_bestWay v_order1 v_placeIn v_bodyKind v_trace v_shelf v_many v_items v_carried) (wd_X9 cI cL cS cH a v_keptMany v_done v_rowsOf v_columnsOf v_folded v_wronged v_tapeMany v_textMany v_base w_at v_ends w_fault w_opened v_bentMany v_bentWrong v_moreWorn v_planned v_allWrong v_allWorn v_z v_wishedField v_isFound v_bestWrong v_bestWorn v_bestMany v_soughtBy v_sought v_soughtAt v_foundMany v_foundOrder v_isKept v_imageRows v_imageColumns v_imageFolded v_imageWronged v_bodies v_ran v_ownKind v_ownNumber v_limit v_changeWas v_changeIs v_shapeRows v_shapeColumns v_row v_column v_below v_face v_worn v_lastBend v_tape v_text v_names v_bends v_high v_to v_pileSize v_planLine v_planWay v_way1 v_bestWay v_order1 v_placeIn v_bodyKind v_trace v_shelf v_many v_items v_carried) (some (.int r))) (hE : 2 ≤ dgo) (hd : dgo + 1 ≤ d) (C0 : mm_Cx p s m args meth c RX9 cX9_product 4 (some .int) D (mm_T cI cL cS cH) A) (hA : ∀ q, s.heap.size ≤ q → A q) {v_keptMany : Int32} {v_done : Int32} {v_rowsOf : Int32} {v_columnsOf : Int32} {v_folded : Int32} {v_wronged : Int32} {v_tapeMany : Int32} {v_textMany : Int32} {v_bentMany : Int32} {v_bentWrong : Int32} {v_moreWorn : Int32} {v_planned : Int32} {v_allWrong : Int32} {v_allWorn : Int32} {v_z : Int32} {v_wishedField : Int32} {v_isFound : Bool} {v_bestWrong : Int32} {v_bestWorn : Int32} {v_bestMany : Int32} {v_soughtBy : Int32} {v_sought : Int32} {v_soughtAt : Int32} {v_foundMany : Int32} {v_foundOrder : Int32} {v_isKept : Bool} {v_imageRows : Int32} {v_imageColumns : Int32} {v_imageFolded : Int32} {v_imageWronged : Int32} {v_bodies : Int32} {v_ran : Int32} {v_ownKind : Int32} {v_ownNumber : Int32} {v_limit : List Int32} {v_changeWas : List Int32} {v_changeIs : List Int32} {v_shapeRows : List Int32} {v_shapeColumns : List Int32} {v_row : List Int32} {v_column : List Int32} {v_below : List Int32} {v_face : List Int32} {v_worn : List Int32} {v_lastBend : List Int32} {v_bends : List Int32} {v_high : List Int32} {v_to : List Int32} {v_pileSize : List Int32} {v_planLine : List Int32} {v_planWay : List Int32} {v_way1 : List Int32} {v_bestWay : List Int32} {v_order1 : List Int32} {v_placeIn : List Int32} {v_bodyKind : List Int32} {v_trace : List Int32} {v_shelf : List Int32} {v_many : List Int32} {v_items : List Int64} {v_carried : List Int64} {r : Int32} {w_at : Int32} {w_fault : Int32} {w_opened : Int32} (N : Nat) {k_10 : Int32 → Int32 → Int32 → Int32 → Int32 → Int32 → Int32 → List Int32 → List Int32 → List Int32 → Option (Int32 × Int32 × Int32 × Int32)} (hk_10 : ∀ (x1 : Int32) (x2 : Int32) (v_base : Int32) (v_at : Int32) (v_ends : Int32) (v_fault : Int32) (v_opened : Int32) (v_tape : List Int32) (v_text : List Int32) (v_names : List Int32) (H : Heap) (locs : List Loc) (ls : Array Slot), k_10 x1 x2 v_base v_at v_ends v_fault v_opened v_tape v_text v_names = some (r, w_at, w_fault, w_opened) → va_P D mm_cl (wd_X9 cI cL cS cH a v_keptMany v_done v_rowsOf v_columnsOf v_folded v_wronged v_tapeMany v_textMany v_base v_at v_ends v_fault v_opened v_bentMany v_bentWrong v_moreWorn v_planned v_allWrong v_allWorn v_z v_wishedField v_isFound v_bestWrong v_bestWorn v_bestMany v_soughtBy v_sought v_soughtAt v_foundMany v_foundOrder v_isKept v_imageRows v_imageColumns v_imageFolded v_imageWronged v_bodies v_ran v_ownKind v_ownNumber v_limit v_changeWas v_changeIs v_shapeRows v_shapeColumns v_row v_column v_below v_face v_worn v_lastBend v_tape v_text v_names v_bends v_high v_to v_pileSize v_planLine v_planWay v_way1 v_bestWay v_order1 v_placeIn v_bodyKind v_trace v_shelf v_many v_items v_carried) H → va_D A (wd_X9 cI cL cS cH a v_keptMany v_done v_rowsOf v_columnsOf v_folded v_wronged v_tapeMany v_textMany v_base v_at v_ends v_fault v_opened v_bentMany v_bentWrong v_moreWorn v_planned v_allWrong v_allWorn v_z v_wishedField v_isFound v_bestWrong v_bestWorn v_bestMany v_soughtBy v_sought v_soughtAt v_foundMany v_foundOrder v_isKept v_imageRows v_imageColumns v_imageFolded v_imageWronged v_bodies v_ran v_ownKind v_ownNumber v_limit v_changeWas v_changeIs v_shapeRows v_shapeColumns v_row v_column v_below v_face v_worn v_lastBend v_tape v_text v_names v_bends v_high v_to v_pileSize v_planLine v_planWay v_way1 v_bestWay v_order1 v_placeIn v_bodyKind v_trace v_shelf v_many v_items v_carried) → va_S A s.heap H locs → lv_has ls 4 [(0, .ref (a 0)), (1, .int x1), (2, .int x2)] → W p l e (mm_rr d) s m args below meth c H locs 0 0 (mm_Z below D A (wd_X9 cI cL cS cH a v_keptMany v_done v_rowsOf v_columnsOf v_folded v_wronged v_tapeMany v_textMany v_base w_at v_ends w_fault w_opened v_bentMany v_bentWrong v_moreWorn v_planned v_allWrong v_allWorn v_z v_wishedField v_isFound v_bestWrong v_bestWorn v_bestMany v_soughtBy v_sought v_soughtAt v_foundMany v_foundOrder v_isKept v_imageRows v_imageColumns v_imageFolded v_imageWronged v_bodies v_ran v_ownKind v_ownNumber v_limit v_changeWas v_changeIs v_shapeRows v_shapeColumns v_row v_column v_below v_face v_worn v_lastBend v_tape v_text v_names v_bends v_high v_to v_pileSize v_planLine v_planWay v_way1 v_bestWay v_order1 v_placeIn v_bodyKind v_trace v_shelf v_many v_items v_carried) (some (.int r)) args s) (F0 m 10 ls [])) : ∀ (x1 : Int32) (x2 : Int32) (v_base : Int32) (v_at : Int32) (v_ends : Int32) (v_fault : Int32) (v_opened : Int32) (v_tape : List Int32) (v_text : List Int32) (v_names : List Int32) (H : Heap) (locs : List Loc) (ls : Array Slot), fX9_product_35 N go k_10 x1 x2 v_base v_at v_ends v_fault v_opened v_tape v_text v_names = some (r, w_at, w_fault, w_opened) → va_P D mm_cl (wd_X9 cI cL cS cH a v_keptMany v_done v_rowsOf v_columnsOf v_folded v_wronged v_tapeMany v_textMany v_base v_at v_ends v_fault v_opened v_bentMany v_bentWrong v_moreWorn v_planned v_allWrong v_allWorn v_z v_wishedField v_isFound v_bestWrong v_bestWorn v_bestMany v_soughtBy v_sought v_soughtAt v_foundMany v_foundOrder v_isKept v_imageRows v_imageColumns v_imageFolded v_imageWronged v_bodies v_ran v_ownKind v_ownNumber v_limit v_changeWas v_changeIs v_shapeRows v_shapeColumns v_row v_column v_below v_face v_worn v_lastBend v_tape v_text v_names v_bends v_high v_to v_pileSize v_planLine v_planWay v_way1 v_bestWay v_order1 v_placeIn v_bodyKind v_trace v_shelf v_many v_items v_carried) H → va_D A (wd_X9 cI cL cS cH a v_keptMany v_done v_rowsOf v_columnsOf v_folded v_wronged v_tapeMany v_textMany v_base v_at v_ends v_fault v_opened v_bentMany v_bentWrong v_moreWorn v_planned v_allWrong v_allWorn v_z v_wishedField v_isFound v_bestWrong v_bestWorn v_bestMany v_soughtBy v_sought v_soughtAt v_foundMany v_foundOrder v_isKept v_imageRows v_imageColumns v_imageFolded v_imageWronged v_bodies v_ran v_ownKind v_ownNumber v_limit v_changeWas v_changeIs v_shapeRows v_shapeColumns v_row v_column v_below v_face v_worn v_lastBend v_tape v_text v_names v_bends v_high v_to v_pileSize v_planLine v_planWay v_way1 v_bestWay v_order1 v_placeIn v_bodyKind v_trace v_shelf v_many v_items v_carried) → va_S A s.heap H locs → lv_has ls 4 [(0, .ref (a 0)), (1, .int x1), (2, .int x2)] → W p l e (mm_rr d) s m args below meth c H locs 0 0 (mm_Z below D A (wd_X9 cI cL cS cH a v_keptMany v_done v_rowsOf v_columnsOf v_folded v_wronged v_tapeMany v_textMany v_base w_at v_ends w_fault w_opened v_bentMany v_bentWrong v_moreWorn v_planned v_allWrong v_allWorn v_z v_wishedField v_isFound v_bestWrong v_bestWorn v_bestMany v_soughtBy v_sought v_soughtAt v_foundMany v_foundOrder v_isKept v_imageRows v_imageColumns v_imageFolded v_imageWronged v_bodies v_ran v_ownKind v_ownNumber v_limit v_changeWas v_changeIs v_shapeRows v_shapeColumns v_row v_column v_below v_face v_worn v_lastBend v_tape v_text v_names v_bends v_high v_to v_pileSize v_planLine v_planWay v_way1 v_bestWay v_order1 v_placeIn v_bodyKind v_trace v_shelf v_many v_items v_carried) (some (.int r)) args s) (F0 m 35 ls []) := by
  obtain ⟨hx, hb, hml, hown, hts, hr, hlocks, hK, hSt⟩ := id C0
  intro x1 x2 v_base v_at v_ends v_fault v_opened v_tape v_text v_names H locs ls hf hP hD hS hl
  unfold fX9_product_35 at hf
  refine lv_aload_n hx hb dX9_product_35 rfl (lv_at hl 0 rfl) ?_
  refine lv_dup hx hb dX9_product_36 rfl ?_
  refine mm_get C0 hP iw_X9 0 rfl rfl 22 (by decide) fl_X9_150 rfl dX9_product_37 ?_
  refine lv_iconst (v := 1) hx hb dX9_product_40 (by decide) ?_
  refine lv_iadd hx hb dX9_product_41 ?_
  refine lv_topi (fun y_12 ey_12 => ?_)
  have hf := mm_nms hf ey_12
  refine mm_put C0 hP hD hS iw_X9 tyX9 tyX9_ok nmX9 0 rfl rfl 22 (by decide) fl_X9_150 rfl rfl rfl (Nat.le_of_ble_eq_true rfl) dX9_product_42 (w2 := (wd_X9 cI cL cS cH a v_keptMany v_done v_rowsOf v_columnsOf v_folded v_wronged v_tapeMany v_textMany v_base y_12 v_ends v_fault v_opened v_bentMany v_bentWrong v_moreWorn v_planned v_allWrong v_allWorn v_z v_wishedField v_isFound v_bestWrong v_bestWorn v_bestMany v_soughtBy v_sought v_soughtAt v_foundMany v_foundOrder v_isKept v_imageRows v_imageColumns v_imageFolded v_imageWronged v_bodies v_ran v_ownKind v_ownNumber v_limit v_changeWas v_changeIs v_shapeRows v_shapeColumns v_row v_column v_below v_face v_worn v_lastBend v_tape v_text v_names v_bends v_high v_to v_pileSize v_planLine v_planWay v_way1 v_bestWay v_order1 v_placeIn v_bodyKind v_trace v_shelf v_many v_items v_carried)) rfl (fun H locs hP hD hS => ?_)
  refine lv_aload_n hx hb dX9_product_45 rfl (lv_at hl 0 rfl) ?_
  obtain ⟨r_13, w_14, w_15, w_16, hc_17, hf⟩ := mm_bd4s hf
  refine mm_callVF (q0 := 0) (ci := 9) (rest := []) C0 lk_X9_181 (hgo a _ _ _ _ _ _ _ _ _ _ _ _ _ _ _ _ _ _ _ _ _ _ _ _ _ _ _ _ _ _ _ _ _ _ _ _ _ _ _ _ _ _ _ _ _ _ _ _ _ _ _ _ _ _ _ _ _ _ _ _ _ _ _ _ _ _ _ _ _ _ _ _ _ hc_17) (by omega) rfl hl.1 rfl (mm_cat rfl) dX9_product_46 hP hD hA hS rfl rfl (fun H locs hP hD hS => ?_)
  refine W.eq (g2 := F0 m 49 ls [.int r_13]) rfl ?_
  refine lv_istore_n (lv' := [(3, .int r_13), (0, .ref (a 0)), (1, .int x1), (2, .int x2)]) hx hb dX9_product_49 rfl hl (by decide) rfl (fun ls hl => ?_)
  refine lv_iload_n hx hb dX9_product_50 rfl (lv_at hl 3 rfl) ?_
  refine lv_bipush (v := 42) hx hb dX9_product_51 (by decide) ?_
  refine lv_icmp_ne (tgt := 62) hx hb dX9_product_53 (by decide) (fun c_18 => ?_) (fun c_18 => ?_)
  · have hf := mm_in hf c_18
    refine lv_iload_n hx hb dX9_product_62 rfl (lv_at hl 0 rfl) ?_
    refine lv_if_ne (tgt := 70) hx hb dX9_product_63 (by decide) (fun c_19 => ?_) (fun c_19 => ?_)
    · have hf := mm_in hf c_19
      refine lv_iload_n hx hb dX9_product_70 rfl (lv_at hl 3 rfl) ?_
      refine lv_bipush (v := 47) hx hb dX9_product_71 (by decide) ?_
      refine lv_icmp_ne (tgt := 82) hx hb dX9_product_73 (by decide) (fun c_20 => ?_) (fun c_20 => ?_)
      · have hf := mm_in hf c_20
        refine lv_iload_n hx hb dX9_product_82 rfl (lv_at hl 2 rfl) ?_
        refine lv_iload_n hx hb dX9_product_83 rfl (lv_at hl 0 rfl) ?_
        obtain ⟨h_21, hf⟩ := mm_cks hf
        refine lv_irem hx hb dX9_product_84 (mm_nzs h_21) ?_
        exact tX9_product_85 hgo hE hd C0 hA N hk_10 _ _ _ _ _ _ _ _ _ H locs ls hf hP hD hS (lv_sub hl [1] rfl)
      · have hf := mm_ip hf c_20
        refine lv_iload_n hx hb dX9_product_76 rfl (lv_at hl 2 rfl) ?_
        refine lv_iload_n hx hb dX9_product_77 rfl (lv_at hl 0 rfl) ?_
        obtain ⟨h_22, hf⟩ := mm_cks hf
        refine lv_idiv hx hb dX9_product_78 (mm_nzs h_22) ?_
        refine lv_goto (tgt := 85) hx hb dX9_product_79 (by decide) ?_
        exact tX9_product_85 hgo hE hd C0 hA N hk_10 _ _ _ _ _ _ _ _ _ H locs ls hf hP hD hS (lv_sub hl [1] rfl)
    · have hf := mm_ip hf c_19
      refine lv_iconst (v := 0) hx hb dX9_product_66 (by decide) ?_
      refine lv_goto (tgt := 85) hx hb dX9_product_67 (by decide) ?_
      exact tX9_product_85 hgo hE hd C0 hA N hk_10 _ _ _ _ _ _ _ _ _ H locs ls hf hP hD hS (lv_sub hl [1] rfl)
  · have hf := mm_ip hf c_18
    refine lv_iload_n hx hb dX9_product_56 rfl (lv_at hl 2 rfl) ?_
    refine lv_iload_n hx hb dX9_product_57 rfl (lv_at hl 0 rfl) ?_
    refine lv_imul hx hb dX9_product_58 ?_
    refine lv_goto (tgt := 85) hx hb dX9_product_59 (by decide) ?_
    exact tX9_product_85 hgo hE hd C0 hA N hk_10 _ _ _ _ _ _ _ _ _ H locs ls hf hP hD hS (lv_sub hl [1] rfl)

def fX9_product_10 (N : Nat) (go : Int32 → Int32 → Int32 → Int32 → Int32 → List Int32 → List Int32 → List Int32 → Option (Int32 × Int32 × Int32 × Int32))  : Nat → Int32 → Int32 → Int32 → Int32 → Int32 → Int32 → Int32 → List Int32 → List Int32 → List Int32 → Option (Int32 × Int32 × Int32 × Int32)
  | 0 => fun _ _ _ _ _ _ _ _ _ _ => none
  | n + 1 => fun x1 x2 v_base v_at v_ends v_fault v_opened v_tape v_text v_names =>
    if 0 ≤ v_fault then
    (some (x1, v_at, v_fault, v_opened))
    else (if x2 = (42 : Int32) then
    (fX9_product_35 N go (fX9_product_10 N go n) x1 x2 v_base v_at v_ends v_fault v_opened v_tape v_text v_names)
    else (if x2 = (47 : Int32) then
    (fX9_product_35 N go (fX9_product_10 N go n) x1 x2 v_base v_at v_ends v_fault v_opened v_tape v_text v_names)
    else (if x2 = (37 : Int32) then
    (fX9_product_35 N go (fX9_product_10 N go n) x1 x2 v_base v_at v_ends v_fault v_opened v_tape v_text v_names)
    else (some (x1, v_at, v_fault, v_opened)))))

set_option maxHeartbeats 4000000 in
set_option maxRecDepth 100000 in
theorem tX9_product_10 {p : Program} {l : Launch} {e : Env} {s : State} {m : MethodId} {args : Array Value} {below : List Frame} {meth : Method} {c : Code} {D : va_G} {cI cL cS cH : ClassId} {A : Nat → Prop} {d : Nat} {a : Nat → Nat} {go : Int32 → Int32 → Int32 → Int32 → Int32 → List Int32 → List Int32 → List Int32 → Option (Int32 × Int32 × Int32 × Int32)} {dgo : Nat} (hgo : ∀ (a : Nat → Nat) (v_keptMany : Int32) (v_done : Int32) (v_rowsOf : Int32) (v_columnsOf : Int32) (v_folded : Int32) (v_wronged : Int32) (v_tapeMany : Int32) (v_textMany : Int32) (v_base : Int32) (v_at : Int32) (v_ends : Int32) (v_fault : Int32) (v_opened : Int32) (v_bentMany : Int32) (v_bentWrong : Int32) (v_moreWorn : Int32) (v_planned : Int32) (v_allWrong : Int32) (v_allWorn : Int32) (v_z : Int32) (v_wishedField : Int32) (v_isFound : Bool) (v_bestWrong : Int32) (v_bestWorn : Int32) (v_bestMany : Int32) (v_soughtBy : Int32) (v_sought : Int32) (v_soughtAt : Int32) (v_foundMany : Int32) (v_foundOrder : Int32) (v_isKept : Bool) (v_imageRows : Int32) (v_imageColumns : Int32) (v_imageFolded : Int32) (v_imageWronged : Int32) (v_bodies : Int32) (v_ran : Int32) (v_ownKind : Int32) (v_ownNumber : Int32) (v_limit : List Int32) (v_changeWas : List Int32) (v_changeIs : List Int32) (v_shapeRows : List Int32) (v_shapeColumns : List Int32) (v_row : List Int32) (v_column : List Int32) (v_below : List Int32) (v_face : List Int32) (v_worn : List Int32) (v_lastBend : List Int32) (v_tape : List Int32) (v_text : List Int32) (v_names : List Int32) (v_bends : List Int32) (v_high : List Int32) (v_to : List Int32) (v_pileSize : List Int32) (v_planLine : List Int32) (v_planWay : List Int32) (v_way1 : List Int32) (v_bestWay : List Int32) (v_order1 : List Int32) (v_placeIn : List Int32) (v_bodyKind : List Int32) (v_trace : List Int32) (v_shelf : List Int32) (v_many : List Int32) (v_items : List Int64) (v_carried : List Int64) (r : Int32) (w_at : Int32) (w_fault : Int32) (w_opened : Int32), go v_base v_at v_ends v_fault v_opened v_tape v_text v_names = some (r, w_at, w_fault, w_opened) → mm_Ct l yX9_one cX9_one 5 (some .int) dgo D (mm_T cI cL cS cH) [.ref (a 0)] (wd_X9 cI cL cS cH a v_keptMany v_done v_rowsOf v_columnsOf v_folded v_wronged v_tapeMany v_textMany v_base v_at v_ends v_fault v_opened v_bentMany v_bentWrong v_moreWorn v_planned v_allWrong v_allWorn v_z v_wishedField v_isFound v_bestWrong v_bestWorn v_bestMany v_soughtBy v_sought v_soughtAt v_foundMany v_foundOrder v_isKept v_imageRows v_imageColumns v_imageFolded v_imageWronged v_bodies v_ran v_ownKind v_ownNumber v_limit v_changeWas v_changeIs v_shapeRows v_shapeColumns v_row v_column v_below v_face v_worn v_lastBend v_tape v_text v_names v_bends v_high v_to v_pileSize v_planLine v_planWay v_way1 v_bestWay v_order1 v_placeIn v_bodyKind v_trace v_shelf v_many v_items v_carried) (wd_X9 cI cL cS cH a v_keptMany v_done v_rowsOf v_columnsOf v_folded v_wronged v_tapeMany v_textMany v_base w_at v_ends w_fault w_opened v_bentMany v_bentWrong v_moreWorn v_planned v_allWrong v_allWorn v_z v_wishedField v_isFound v_bestWrong v_bestWorn v_bestMany v_soughtBy v_sought v_soughtAt v_foundMany v_foundOrder v_isKept v_imageRows v_imageColumns v_imageFolded v_imageWronged v_bodies v_ran v_ownKind v_ownNumber v_limit v_changeWas v_changeIs v_shapeRows v_shapeColumns v_row v_column v_below v_face v_worn v_lastBend v_tape v_text v_names v_bends v_high v_to v_pileSize v_planLine v_planWay v_way1 v_bestWay v_order1 v_placeIn v_bodyKind v_trace v_shelf v_many v_items v_carried) (some (.int r))) (hE : 2 ≤ dgo) (hd : dgo + 1 ≤ d) (C0 : mm_Cx p s m args meth c RX9 cX9_product 4 (some .int) D (mm_T cI cL cS cH) A) (hA : ∀ q, s.heap.size ≤ q → A q) {v_keptMany : Int32} {v_done : Int32} {v_rowsOf : Int32} {v_columnsOf : Int32} {v_folded : Int32} {v_wronged : Int32} {v_tapeMany : Int32} {v_textMany : Int32} {v_bentMany : Int32} {v_bentWrong : Int32} {v_moreWorn : Int32} {v_planned : Int32} {v_allWrong : Int32} {v_allWorn : Int32} {v_z : Int32} {v_wishedField : Int32} {v_isFound : Bool} {v_bestWrong : Int32} {v_bestWorn : Int32} {v_bestMany : Int32} {v_soughtBy : Int32} {v_sought : Int32} {v_soughtAt : Int32} {v_foundMany : Int32} {v_foundOrder : Int32} {v_isKept : Bool} {v_imageRows : Int32} {v_imageColumns : Int32} {v_imageFolded : Int32} {v_imageWronged : Int32} {v_bodies : Int32} {v_ran : Int32} {v_ownKind : Int32} {v_ownNumber : Int32} {v_limit : List Int32} {v_changeWas : List Int32} {v_changeIs : List Int32} {v_shapeRows : List Int32} {v_shapeColumns : List Int32} {v_row : List Int32} {v_column : List Int32} {v_below : List Int32} {v_face : List Int32} {v_worn : List Int32} {v_lastBend : List Int32} {v_bends : List Int32} {v_high : List Int32} {v_to : List Int32} {v_pileSize : List Int32} {v_planLine : List Int32} {v_planWay : List Int32} {v_way1 : List Int32} {v_bestWay : List Int32} {v_order1 : List Int32} {v_placeIn : List Int32} {v_bodyKind : List Int32} {v_trace : List Int32} {v_shelf : List Int32} {v_many : List Int32} {v_items : List Int64} {v_carried : List Int64} {r : Int32} {w_at : Int32} {w_fault : Int32} {w_opened : Int32} (N : Nat)  : ∀ (n : Nat), ∀ (x1 : Int32) (x2 : Int32) (v_base : Int32) (v_at : Int32) (v_ends : Int32) (v_fault : Int32) (v_opened : Int32) (v_tape : List Int32) (v_text : List Int32) (v_names : List Int32) (H : Heap) (locs : List Loc) (ls : Array Slot), fX9_product_10 N go n x1 x2 v_base v_at v_ends v_fault v_opened v_tape v_text v_names = some (r, w_at, w_fault, w_opened) → va_P D mm_cl (wd_X9 cI cL cS cH a v_keptMany v_done v_rowsOf v_columnsOf v_folded v_wronged v_tapeMany v_textMany v_base v_at v_ends v_fault v_opened v_bentMany v_bentWrong v_moreWorn v_planned v_allWrong v_allWorn v_z v_wishedField v_isFound v_bestWrong v_bestWorn v_bestMany v_soughtBy v_sought v_soughtAt v_foundMany v_foundOrder v_isKept v_imageRows v_imageColumns v_imageFolded v_imageWronged v_bodies v_ran v_ownKind v_ownNumber v_limit v_changeWas v_changeIs v_shapeRows v_shapeColumns v_row v_column v_below v_face v_worn v_lastBend v_tape v_text v_names v_bends v_high v_to v_pileSize v_planLine v_planWay v_way1 v_bestWay v_order1 v_placeIn v_bodyKind v_trace v_shelf v_many v_items v_carried) H → va_D A (wd_X9 cI cL cS cH a v_keptMany v_done v_rowsOf v_columnsOf v_folded v_wronged v_tapeMany v_textMany v_base v_at v_ends v_fault v_opened v_bentMany v_bentWrong v_moreWorn v_planned v_allWrong v_allWorn v_z v_wishedField v_isFound v_bestWrong v_bestWorn v_bestMany v_soughtBy v_sought v_soughtAt v_foundMany v_foundOrder v_isKept v_imageRows v_imageColumns v_imageFolded v_imageWronged v_bodies v_ran v_ownKind v_ownNumber v_limit v_changeWas v_changeIs v_shapeRows v_shapeColumns v_row v_column v_below v_face v_worn v_lastBend v_tape v_text v_names v_bends v_high v_to v_pileSize v_planLine v_planWay v_way1 v_bestWay v_order1 v_placeIn v_bodyKind v_trace v_shelf v_many v_items v_carried) → va_S A s.heap H locs → lv_has ls 4 [(0, .ref (a 0)), (1, .int x1), (2, .int x2)] → W p l e (mm_rr d) s m args below meth c H locs 0 0 (mm_Z below D A (wd_X9 cI cL cS cH a v_keptMany v_done v_rowsOf v_columnsOf v_folded v_wronged v_tapeMany v_textMany v_base w_at v_ends w_fault w_opened v_bentMany v_bentWrong v_moreWorn v_planned v_allWrong v_allWorn v_z v_wishedField v_isFound v_bestWrong v_bestWorn v_bestMany v_soughtBy v_sought v_soughtAt v_foundMany v_foundOrder v_isKept v_imageRows v_imageColumns v_imageFolded v_imageWronged v_bodies v_ran v_ownKind v_ownNumber v_limit v_changeWas v_changeIs v_shapeRows v_shapeColumns v_row v_column v_below v_face v_worn v_lastBend v_tape v_text v_names v_bends v_high v_to v_pileSize v_planLine v_planWay v_way1 v_bestWay v_order1 v_placeIn v_bodyKind v_trace v_shelf v_many v_items v_carried) (some (.int r)) args s) (F0 m 10 ls []) := by
  obtain ⟨hx, hb, hml, hown, hts, hr, hlocks, hK, hSt⟩ := id C0
  intro n
  induction n with
  | zero =>
    intro x1 x2 v_base v_at v_ends v_fault v_opened v_tape v_text v_names H locs ls hf
    cases (show none = some _ from hf)
  | succ n ih =>
    intro x1 x2 v_base v_at v_ends v_fault v_opened v_tape v_text v_names H locs ls hf hP hD hS hl
    unfold fX9_product_10 at hf
    refine lv_aload_n hx hb dX9_product_10 rfl (lv_at hl 0 rfl) ?_
    refine mm_get C0 hP iw_X9 0 rfl rfl 24 (by decide) fl_X9_159 rfl dX9_product_11 ?_
    refine lv_if_ge (tgt := 94) hx hb dX9_product_14 (by decide) (fun c_8 => ?_) (fun c_8 => ?_)
    · have hf := mm_ip hf c_8
      refine lv_iload_n hx hb dX9_product_94 rfl (lv_at hl 1 rfl) ?_
      apply mm_sub4 hf
      exact mm_iret C0 hP hD hS dX9_product_95
    · have hf := mm_in hf c_8
      refine lv_iload_n hx hb dX9_product_17 rfl (lv_at hl 2 rfl) ?_
      refine lv_bipush (v := 42) hx hb dX9_product_18 (by decide) ?_
      refine lv_icmp_eq (tgt := 35) hx hb dX9_product_20 (by decide) (fun c_9 => ?_) (fun c_9 => ?_)
      · have hf := mm_ip hf c_9
        exact tX9_product_35 hgo hE hd C0 hA N ih _ _ _ _ _ _ _ _ _ _ H locs ls hf hP hD hS (lv_sub hl [0, 1, 2] rfl)
      · have hf := mm_in hf c_9
        refine lv_iload_n hx hb dX9_product_23 rfl (lv_at hl 2 rfl) ?_
        refine lv_bipush (v := 47) hx hb dX9_product_24 (by decide) ?_
        refine lv_icmp_eq (tgt := 35) hx hb dX9_product_26 (by decide) (fun c_10 => ?_) (fun c_10 => ?_)
        · have hf := mm_ip hf c_10
          exact tX9_product_35 hgo hE hd C0 hA N ih _ _ _ _ _ _ _ _ _ _ H locs ls hf hP hD hS (lv_sub hl [0, 1, 2] rfl)
        · have hf := mm_in hf c_10
          refine lv_iload_n hx hb dX9_product_29 rfl (lv_at hl 2 rfl) ?_
          refine lv_bipush (v := 37) hx hb dX9_product_30 (by decide) ?_
          refine lv_icmp_ne (tgt := 94) hx hb dX9_product_32 (by decide) (fun c_11 => ?_) (fun c_11 => ?_)
          · have hf := mm_in hf c_11
            refine lv_iload_n hx hb dX9_product_94 rfl (lv_at hl 1 rfl) ?_
            apply mm_sub4 hf
            exact mm_iret C0 hP hD hS dX9_product_95
          · have hf := mm_ip hf c_11
            exact tX9_product_35 hgo hE hd C0 hA N ih _ _ _ _ _ _ _ _ _ _ H locs ls hf hP hD hS (lv_sub hl [0, 1, 2] rfl)

def fX9_product (N : Nat) (go : Int32 → Int32 → Int32 → Int32 → Int32 → List Int32 → List Int32 → List Int32 → Option (Int32 × Int32 × Int32 × Int32)) (v_base : Int32) (v_at : Int32) (v_ends : Int32) (v_fault : Int32) (v_opened : Int32) (v_tape : List Int32) (v_text : List Int32) (v_names : List Int32) : Option (Int32 × Int32 × Int32 × Int32) :=
    mm_bd4 (go v_base v_at v_ends v_fault v_opened v_tape v_text v_names) (fun (r_1 : Int32) (w_2 : Int32) (w_3 : Int32) (w_4 : Int32) =>
    mm_bd1 (fX9_byteAt N v_base w_2 v_ends v_tape v_text) (fun (r_6 : Int32) =>
    fX9_product_10 N go N r_1 r_6 v_base w_2 v_ends w_3 w_4 v_tape v_text v_names))

set_option maxHeartbeats 4000000 in
set_option maxRecDepth 100000 in
theorem ctX9_product {l : Launch} {D : va_G} {cI cL cS cH : ClassId} {a : Nat → Nat}  {v_keptMany : Int32} {v_done : Int32} {v_rowsOf : Int32} {v_columnsOf : Int32} {v_folded : Int32} {v_wronged : Int32} {v_tapeMany : Int32} {v_textMany : Int32} {v_base : Int32} {v_at : Int32} {v_ends : Int32} {v_fault : Int32} {v_opened : Int32} {v_bentMany : Int32} {v_bentWrong : Int32} {v_moreWorn : Int32} {v_planned : Int32} {v_allWrong : Int32} {v_allWorn : Int32} {v_z : Int32} {v_wishedField : Int32} {v_isFound : Bool} {v_bestWrong : Int32} {v_bestWorn : Int32} {v_bestMany : Int32} {v_soughtBy : Int32} {v_sought : Int32} {v_soughtAt : Int32} {v_foundMany : Int32} {v_foundOrder : Int32} {v_isKept : Bool} {v_imageRows : Int32} {v_imageColumns : Int32} {v_imageFolded : Int32} {v_imageWronged : Int32} {v_bodies : Int32} {v_ran : Int32} {v_ownKind : Int32} {v_ownNumber : Int32} {v_limit : List Int32} {v_changeWas : List Int32} {v_changeIs : List Int32} {v_shapeRows : List Int32} {v_shapeColumns : List Int32} {v_row : List Int32} {v_column : List Int32} {v_below : List Int32} {v_face : List Int32} {v_worn : List Int32} {v_lastBend : List Int32} {v_tape : List Int32} {v_text : List Int32} {v_names : List Int32} {v_bends : List Int32} {v_high : List Int32} {v_to : List Int32} {v_pileSize : List Int32} {v_planLine : List Int32} {v_planWay : List Int32} {v_way1 : List Int32} {v_bestWay : List Int32} {v_order1 : List Int32} {v_placeIn : List Int32} {v_bodyKind : List Int32} {v_trace : List Int32} {v_shelf : List Int32} {v_many : List Int32} {v_items : List Int64} {v_carried : List Int64} {r : Int32} {w_at : Int32} {w_fault : Int32} {w_opened : Int32} {N d : Nat} {go : Int32 → Int32 → Int32 → Int32 → Int32 → List Int32 → List Int32 → List Int32 → Option (Int32 × Int32 × Int32 × Int32)} {dgo : Nat} (hgo : ∀ (a : Nat → Nat) (v_keptMany : Int32) (v_done : Int32) (v_rowsOf : Int32) (v_columnsOf : Int32) (v_folded : Int32) (v_wronged : Int32) (v_tapeMany : Int32) (v_textMany : Int32) (v_base : Int32) (v_at : Int32) (v_ends : Int32) (v_fault : Int32) (v_opened : Int32) (v_bentMany : Int32) (v_bentWrong : Int32) (v_moreWorn : Int32) (v_planned : Int32) (v_allWrong : Int32) (v_allWorn : Int32) (v_z : Int32) (v_wishedField : Int32) (v_isFound : Bool) (v_bestWrong : Int32) (v_bestWorn : Int32) (v_bestMany : Int32) (v_soughtBy : Int32) (v_sought : Int32) (v_soughtAt : Int32) (v_foundMany : Int32) (v_foundOrder : Int32) (v_isKept : Bool) (v_imageRows : Int32) (v_imageColumns : Int32) (v_imageFolded : Int32) (v_imageWronged : Int32) (v_bodies : Int32) (v_ran : Int32) (v_ownKind : Int32) (v_ownNumber : Int32) (v_limit : List Int32) (v_changeWas : List Int32) (v_changeIs : List Int32) (v_shapeRows : List Int32) (v_shapeColumns : List Int32) (v_row : List Int32) (v_column : List Int32) (v_below : List Int32) (v_face : List Int32) (v_worn : List Int32) (v_lastBend : List Int32) (v_tape : List Int32) (v_text : List Int32) (v_names : List Int32) (v_bends : List Int32) (v_high : List Int32) (v_to : List Int32) (v_pileSize : List Int32) (v_planLine : List Int32) (v_planWay : List Int32) (v_way1 : List Int32) (v_bestWay : List Int32) (v_order1 : List Int32) (v_placeIn : List Int32) (v_bodyKind : List Int32) (v_trace : List Int32) (v_shelf : List Int32) (v_many : List Int32) (v_items : List Int64) (v_carried : List Int64) (r : Int32) (w_at : Int32) (w_fault : Int32) (w_opened : Int32), go v_base v_at v_ends v_fault v_opened v_tape v_text v_names = some (r, w_at, w_fault, w_opened) → mm_Ct l yX9_one cX9_one 5 (some .int) dgo D (mm_T cI cL cS cH) [.ref (a 0)] (wd_X9 cI cL cS cH a v_keptMany v_done v_rowsOf v_columnsOf v_folded v_wronged v_tapeMany v_textMany v_base v_at v_ends v_fault v_opened v_bentMany v_bentWrong v_moreWorn v_planned v_allWrong v_allWorn v_z v_wishedField v_isFound v_bestWrong v_bestWorn v_bestMany v_soughtBy v_sought v_soughtAt v_foundMany v_foundOrder v_isKept v_imageRows v_imageColumns v_imageFolded v_imageWronged v_bodies v_ran v_ownKind v_ownNumber v_limit v_changeWas v_changeIs v_shapeRows v_shapeColumns v_row v_column v_below v_face v_worn v_lastBend v_tape v_text v_names v_bends v_high v_to v_pileSize v_planLine v_planWay v_way1 v_bestWay v_order1 v_placeIn v_bodyKind v_trace v_shelf v_many v_items v_carried) (wd_X9 cI cL cS cH a v_keptMany v_done v_rowsOf v_columnsOf v_folded v_wronged v_tapeMany v_textMany v_base w_at v_ends w_fault w_opened v_bentMany v_bentWrong v_moreWorn v_planned v_allWrong v_allWorn v_z v_wishedField v_isFound v_bestWrong v_bestWorn v_bestMany v_soughtBy v_sought v_soughtAt v_foundMany v_foundOrder v_isKept v_imageRows v_imageColumns v_imageFolded v_imageWronged v_bodies v_ran v_ownKind v_ownNumber v_limit v_changeWas v_changeIs v_shapeRows v_shapeColumns v_row v_column v_below v_face v_worn v_lastBend v_tape v_text v_names v_bends v_high v_to v_pileSize v_planLine v_planWay v_way1 v_bestWay v_order1 v_placeIn v_bodyKind v_trace v_shelf v_many v_items v_carried) (some (.int r))) (hE : 2 ≤ dgo) (hd : dgo + 1 ≤ d) (hf : fX9_product N go v_base v_at v_ends v_fault v_opened v_tape v_text v_names = some (r, w_at, w_fault, w_opened)) : mm_Ct l yX9_product cX9_product 4 (some .int) d D (mm_T cI cL cS cH) [.ref (a 0)] (wd_X9 cI cL cS cH a v_keptMany v_done v_rowsOf v_columnsOf v_folded v_wronged v_tapeMany v_textMany v_base v_at v_ends v_fault v_opened v_bentMany v_bentWrong v_moreWorn v_planned v_allWrong v_allWorn v_z v_wishedField v_isFound v_bestWrong v_bestWorn v_bestMany v_soughtBy v_sought v_soughtAt v_foundMany v_foundOrder v_isKept v_imageRows v_imageColumns v_imageFolded v_imageWronged v_bodies v_ran v_ownKind v_ownNumber v_limit v_changeWas v_changeIs v_shapeRows v_shapeColumns v_row v_column v_below v_face v_worn v_lastBend v_tape v_text v_names v_bends v_high v_to v_pileSize v_planLine v_planWay v_way1 v_bestWay v_order1 v_placeIn v_bodyKind v_trace v_shelf v_many v_items v_carried) (wd_X9 cI cL cS cH a v_keptMany v_done v_rowsOf v_columnsOf v_folded v_wronged v_tapeMany v_textMany v_base w_at v_ends w_fault w_opened v_bentMany v_bentWrong v_moreWorn v_planned v_allWrong v_allWorn v_z v_wishedField v_isFound v_bestWrong v_bestWorn v_bestMany v_soughtBy v_sought v_soughtAt v_foundMany v_foundOrder v_isKept v_imageRows v_imageColumns v_imageFolded v_imageWronged v_bodies v_ran v_ownKind v_ownNumber v_limit v_changeWas v_changeIs v_shapeRows v_shapeColumns v_row v_column v_below v_face v_worn v_lastBend v_tape v_text v_names v_bends v_high v_to v_pileSize v_planLine v_planWay v_way1 v_bestWay v_order1 v_placeIn v_bodyKind v_trace v_shelf v_many v_items v_carried) (some (.int r)) := by
  refine mm_of (by decide) (Nat.le_of_ble_eq_true rfl) ?_
  intro p e s m args below meth c A H locs ls C0 hP hD hA hS hl
  have C0 : mm_Cx p s m args meth c RX9 cX9_product 4 (some .int) D (mm_T cI cL cS cH) A := C0
  obtain ⟨hx, hb, hml, hown, hts, hr, hlocks, hK, hSt⟩ := id C0
  have hl : lv_has ls 4 [(0, .ref (a 0))] := hl
  unfold fX9_product at hf
  refine lv_aload_n hx hb dX9_product_0 rfl (lv_at hl 0 rfl) ?_
  obtain ⟨r_1, w_2, w_3, w_4, hc_5, hf⟩ := mm_bd4s hf
  refine mm_callVF (q0 := 0) (ci := 9) (rest := []) C0 lk_X9_181 (hgo a _ _ _ _ _ _ _ _ _ _ _ _ _ _ _ _ _ _ _ _ _ _ _ _ _ _ _ _ _ _ _ _ _ _ _ _ _ _ _ _ _ _ _ _ _ _ _ _ _ _ _ _ _ _ _ _ _ _ _ _ _ _ _ _ _ _ _ _ _ _ _ _ _ hc_5) (by omega) rfl hl.1 rfl (mm_cat rfl) dX9_product_1 hP hD hA hS rfl rfl (fun H locs hP hD hS => ?_)
  refine W.eq (g2 := F0 m 4 ls [.int r_1]) rfl ?_
  refine lv_istore_n (lv' := [(1, .int r_1), (0, .ref (a 0))]) hx hb dX9_product_4 rfl hl (by decide) rfl (fun ls hl => ?_)
  refine lv_aload_n hx hb dX9_product_5 rfl (lv_at hl 1 rfl) ?_
  obtain ⟨r_6, hc_7, hf⟩ := mm_bd1s hf
  refine mm_callVF (q0 := 0) (ci := 9) (rest := []) C0 lk_X9_162 (ctX9_byteAt (a := a) (d := d - 1) (by omega) hc_7) (by omega) rfl hl.1 rfl (mm_cat rfl) dX9_product_6 hP hD hA hS rfl rfl (fun H locs hP hD hS => ?_)
  refine W.eq (g2 := F0 m 9 ls [.int r_6]) rfl ?_
  refine lv_istore_n (lv' := [(2, .int r_6), (1, .int r_1), (0, .ref (a 0))]) hx hb dX9_product_9 rfl hl (by decide) rfl (fun ls hl => ?_)
  exact tX9_product_10 hgo hE hd C0 hA N  N _ _ _ _ _ _ _ _ _ _ H locs ls hf hP hD hS (lv_sub hl [2, 1, 0] rfl)
end
section
/-! reference: X9_sums, X9_compared, X9_both -/
theorem nb_dX9_sums_0 : bls_w cX9_sums [(0, [42]), (1, [182, 0, 178]), (4, [60]), (5, [42]), (6, [180, 0, 159]), (9, [156, 0, 68]), (12, [42]), (13, [182, 0, 162]), (16, [16, 43]), (18, [159, 0, 12]), (21, [42]), (22, [182, 0, 162])] := bls_of (by decide +kernel)
theorem dX9_sums_0 : decode cX9_sums 0 = .ok (.aload_n 0, 1) := op_42 nb_dX9_sums_0.1
set_option maxRecDepth 100000 in
theorem dX9_sums_1 : decode cX9_sums 1 = .ok (.invokevirtual 178, 3) := (op_182 nb_dX9_sums_0.2.1).trans rfl
theorem dX9_sums_4 : decode cX9_sums 4 = .ok (.istore_n 1, 1) := op_60 nb_dX9_sums_0.2.2.1
theorem dX9_sums_5 : decode cX9_sums 5 = .ok (.aload_n 0, 1) := op_42 nb_dX9_sums_0.2.2.2.1
set_option maxRecDepth 100000 in
theorem dX9_sums_6 : decode cX9_sums 6 = .ok (.getfield 159, 3) := (op_180 nb_dX9_sums_0.2.2.2.2.1).trans rfl
set_option maxRecDepth 100000 in
theorem dX9_sums_9 : decode cX9_sums 9 = .ok (.ifCond .ge 68, 3) := (op_156 nb_dX9_sums_0.2.2.2.2.2.1).trans rfl
theorem dX9_sums_12 : decode cX9_sums 12 = .ok (.aload_n 0, 1) := op_42 nb_dX9_sums_0.2.2.2.2.2.2.1
set_option maxRecDepth 100000 in
theorem dX9_sums_13 : decode cX9_sums 13 = .ok (.invokevirtual 162, 3) := (op_182 nb_dX9_sums_0.2.2.2.2.2.2.2.1).trans rfl
set_option maxRecDepth 100000 in
theorem dX9_sums_16 : decode cX9_sums 16 = .ok (.bipush 43, 2) := (op_16 nb_dX9_sums_0.2.2.2.2.2.2.2.2.1).trans rfl
set_option maxRecDepth 100000 in
theorem dX9_sums_18 : decode cX9_sums 18 = .ok (.if_icmp .eq 12, 3) := (op_159 nb_dX9_sums_0.2.2.2.2.2.2.2.2.2.1).trans rfl
theorem dX9_sums_21 : decode cX9_sums 21 = .ok (.aload_n 0, 1) := op_42 nb_dX9_sums_0.2.2.2.2.2.2.2.2.2.2.1
set_option maxRecDepth 100000 in
theorem dX9_sums_22 : decode cX9_sums 22 = .ok (.invokevirtual 162, 3) := (op_182 nb_dX9_sums_0.2.2.2.2.2.2.2.2.2.2.2.1).trans rfl
theorem nb_dX9_sums_25 : bls_w cX9_sums [(25, [16, 45]), (27, [160, 0, 50]), (30, [42]), (31, [182, 0, 162]), (34, [16, 43]), (36, [160, 0, 7]), (39, [4]), (40, [167, 0, 4]), (43, [3]), (44, [61]), (45, [42]), (46, [89])] := bls_of (by decide +kernel)
set_option maxRecDepth 100000 in
theorem dX9_sums_25 : decode cX9_sums 25 = .ok (.bipush 45, 2) := (op_16 nb_dX9_sums_25.1).trans rfl
set_option maxRecDepth 100000 in
theorem dX9_sums_27 : decode cX9_sums 27 = .ok (.if_icmp .ne 50, 3) := (op_160 nb_dX9_sums_25.2.1).trans rfl
theorem dX9_sums_30 : decode cX9_sums 30 = .ok (.aload_n 0, 1) := op_42 nb_dX9_sums_25.2.2.1
set_option maxRecDepth 100000 in
theorem dX9_sums_31 : decode cX9_sums 31 = .ok (.invokevirtual 162, 3) := (op_182 nb_dX9_sums_25.2.2.2.1).trans rfl
set_option maxRecDepth 100000 in
theorem dX9_sums_34 : decode cX9_sums 34 = .ok (.bipush 43, 2) := (op_16 nb_dX9_sums_25.2.2.2.2.1).trans rfl
set_option maxRecDepth 100000 in
theorem dX9_sums_36 : decode cX9_sums 36 = .ok (.if_icmp .ne 7, 3) := (op_160 nb_dX9_sums_25.2.2.2.2.2.1).trans rfl
theorem dX9_sums_39 : decode cX9_sums 39 = .ok (.iconst 1, 1) := op_4 nb_dX9_sums_25.2.2.2.2.2.2.1
set_option maxRecDepth 100000 in
theorem dX9_sums_40 : decode cX9_sums 40 = .ok (.goto 4, 3) := (op_167 nb_dX9_sums_25.2.2.2.2.2.2.2.1).trans rfl
theorem dX9_sums_43 : decode cX9_sums 43 = .ok (.iconst 0, 1) := op_3 nb_dX9_sums_25.2.2.2.2.2.2.2.2.1
theorem dX9_sums_44 : decode cX9_sums 44 = .ok (.istore_n 2, 1) := op_61 nb_dX9_sums_25.2.2.2.2.2.2.2.2.2.1
theorem dX9_sums_45 : decode cX9_sums 45 = .ok (.aload_n 0, 1) := op_42 nb_dX9_sums_25.2.2.2.2.2.2.2.2.2.2.1
theorem dX9_sums_46 : decode cX9_sums 46 = .ok (.dup, 1) := op_89 nb_dX9_sums_25.2.2.2.2.2.2.2.2.2.2.2.1
theorem nb_dX9_sums_47 : bls_w cX9_sums [(47, [180, 0, 150]), (50, [4]), (51, [96]), (52, [181, 0, 150]), (55, [42]), (56, [182, 0, 178]), (59, [62]), (60, [28]), (61, [153, 0, 9]), (64, [27]), (65, [29]), (66, [96])] := bls_of (by decide +kernel)
set_option maxRecDepth 100000 in
theorem dX9_sums_47 : decode cX9_sums 47 = .ok (.getfield 150, 3) := (op_180 nb_dX9_sums_47.1).trans rfl
theorem dX9_sums_50 : decode cX9_sums 50 = .ok (.iconst 1, 1) := op_4 nb_dX9_sums_47.2.1
theorem dX9_sums_51 : decode cX9_sums 51 = .ok (.iadd, 1) := op_96 nb_dX9_sums_47.2.2.1
set_option maxRecDepth 100000 in
theorem dX9_sums_52 : decode cX9_sums 52 = .ok (.putfield 150, 3) := (op_181 nb_dX9_sums_47.2.2.2.1).trans rfl
theorem dX9_sums_55 : decode cX9_sums 55 = .ok (.aload_n 0, 1) := op_42 nb_dX9_sums_47.2.2.2.2.1
set_option maxRecDepth 100000 in
theorem dX9_sums_56 : decode cX9_sums 56 = .ok (.invokevirtual 178, 3) := (op_182 nb_dX9_sums_47.2.2.2.2.2.1).trans rfl
theorem dX9_sums_59 : decode cX9_sums 59 = .ok (.istore_n 3, 1) := op_62 nb_dX9_sums_47.2.2.2.2.2.2.1
theorem dX9_sums_60 : decode cX9_sums 60 = .ok (.iload_n 2, 1) := op_28 nb_dX9_sums_47.2.2.2.2.2.2.2.1
set_option maxRecDepth 100000 in
theorem dX9_sums_61 : decode cX9_sums 61 = .ok (.ifCond .eq 9, 3) := (op_153 nb_dX9_sums_47.2.2.2.2.2.2.2.2.1).trans rfl
theorem dX9_sums_64 : decode cX9_sums 64 = .ok (.iload_n 1, 1) := op_27 nb_dX9_sums_47.2.2.2.2.2.2.2.2.2.1
theorem dX9_sums_65 : decode cX9_sums 65 = .ok (.iload_n 3, 1) := op_29 nb_dX9_sums_47.2.2.2.2.2.2.2.2.2.2.1
theorem dX9_sums_66 : decode cX9_sums 66 = .ok (.iadd, 1) := op_96 nb_dX9_sums_47.2.2.2.2.2.2.2.2.2.2.2.1
theorem nb_dX9_sums_67 : bls_w cX9_sums [(67, [167, 0, 6]), (70, [27]), (71, [29]), (72, [100]), (73, [60]), (74, [167, 255, 187]), (77, [27]), (78, [172])] := bls_of (by decide +kernel)
set_option maxRecDepth 100000 in
theorem dX9_sums_67 : decode cX9_sums 67 = .ok (.goto 6, 3) := (op_167 nb_dX9_sums_67.1).trans rfl
theorem dX9_sums_70 : decode cX9_sums 70 = .ok (.iload_n 1, 1) := op_27 nb_dX9_sums_67.2.1
theorem dX9_sums_71 : decode cX9_sums 71 = .ok (.iload_n 3, 1) := op_29 nb_dX9_sums_67.2.2.1
theorem dX9_sums_72 : decode cX9_sums 72 = .ok (.isub, 1) := op_100 nb_dX9_sums_67.2.2.2.1
theorem dX9_sums_73 : decode cX9_sums 73 = .ok (.istore_n 1, 1) := op_60 nb_dX9_sums_67.2.2.2.2.1
set_option maxRecDepth 100000 in
theorem dX9_sums_74 : decode cX9_sums 74 = .ok (.goto (-69), 3) := (op_167 nb_dX9_sums_67.2.2.2.2.2.1).trans rfl
theorem dX9_sums_77 : decode cX9_sums 77 = .ok (.iload_n 1, 1) := op_27 nb_dX9_sums_67.2.2.2.2.2.2.1
theorem dX9_sums_78 : decode cX9_sums 78 = .ok (.ireturn, 1) := op_172 nb_dX9_sums_67.2.2.2.2.2.2.2.1
def fX9_sums_73 (N : Nat) (go : Int32 → Int32 → Int32 → Int32 → Int32 → List Int32 → List Int32 → List Int32 → Option (Int32 × Int32 × Int32 × Int32)) (k_5 : Int32 → Int32 → Int32 → Int32 → Int32 → Int32 → List Int32 → List Int32 → List Int32 → Option (Int32 × Int32 × Int32 × Int32)) (s0 : Int32) (v_base : Int32) (v_at : Int32) (v_ends : Int32) (v_fault : Int32) (v_opened : Int32) (v_tape : List Int32) (v_text : List Int32) (v_names : List Int32) : Option (Int32 × Int32 × Int32 × Int32) :=
    k_5 s0 v_base v_at v_ends v_fault v_opened v_tape v_text v_names

set_option maxHeartbeats 4000000 in
set_option maxRecDepth 100000 in
theorem tX9_sums_73 {p : Program} {l : Launch} {e : Env} {s : State} {m : MethodId} {args : Array Value} {below : List Frame} {meth : Method} {c : Code} {D : va_G} {cI cL cS cH : ClassId} {A : Nat → Prop} {d : Nat} {a : Nat → Nat} {go : Int32 → Int32 → Int32 → Int32 → Int32 → List Int32 → List Int32 → List Int32 → Option (Int32 × Int32 × Int32 × Int32)} {dgo : Nat} (hgo : ∀ (a : Nat → Nat) (v_keptMany : Int32) (v_done : Int32) (v_rowsOf : Int32) (v_columnsOf : Int32) (v_folded : Int32) (v_wronged : Int32) (v_tapeMany : Int32) (v_textMany : Int32) (v_base : Int32) (v_at : Int32) (v_ends : Int32) (v_fault : Int32) (v_opened : Int32) (v_bentMany : Int32) (v_bentWrong : Int32) (v_moreWorn : Int32) (v_planned : Int32) (v_allWrong : Int32) (v_allWorn : Int32) (v_z : Int32) (v_wishedField : Int32) (v_isFound : Bool) (v_bestWrong : Int32) (v_bestWorn : Int32) (v_bestMany : Int32) (v_soughtBy : Int32) (v_sought : Int32) (v_soughtAt : Int32) (v_foundMany : Int32) (v_foundOrder : Int32) (v_isKept : Bool) (v_imageRows : Int32) (v_imageColumns : Int32) (v_imageFolded : Int32) (v_imageWronged : Int32) (v_bodies : Int32) (v_ran : Int32) (v_ownKind : Int32) (v_ownNumber : Int32) (v_limit : List Int32) (v_changeWas : List Int32) (v_changeIs : List Int32) (v_shapeRows : List Int32) (v_shapeColumns : List Int32) (v_row : List Int32) (v_column : List Int32) (v_below : List Int32) (v_face : List Int32) (v_worn : List Int32) (v_lastBend : List Int32) (v_tape : List Int32) (v_text : List Int32) (v_names : List Int32) (v_bends : List Int32) (v_high : List Int32) (v_to : List Int32) (v_pileSize : List Int32) (v_planLine : List Int32) (v_planWay : List Int32) (v_way1 : List Int32) (v_bestWay : List Int32) (v_order1 : List Int32) (v_placeIn : List Int32) (v_bodyKind : List Int32) (v_trace : List Int32) (v_shelf : List Int32) (v_many : List Int32) (v_items : List Int64) (v_carried : List Int64) (r : Int32) (w_at : Int32) (w_fault : Int32) (w_opened : Int32), go v_base v_at v_ends v_fault v_opened v_tape v_text v_names = some (r, w_at, w_fault, w_opened) → mm_Ct l yX9_one cX9_one 5 (some .int) dgo D (mm_T cI cL cS cH) [.ref (a 0)] (wd_X9 cI cL cS cH a v_keptMany v_done v_rowsOf v_columnsOf v_folded v_wronged v_tapeMany v_textMany v_base v_at v_ends v_fault v_opened v_bentMany v_bentWrong v_moreWorn v_planned v_allWrong v_allWorn v_z v_wishedField v_isFound v_bestWrong v_bestWorn v_bestMany v_soughtBy v_sought v_soughtAt v_foundMany v_foundOrder v_isKept v_imageRows v_imageColumns v_imageFolded v_imageWronged v_bodies v_ran v_ownKind v_ownNumber v_limit v_changeWas v_changeIs v_shapeRows v_shapeColumns v_row v_column v_below v_face v_worn v_lastBend v_tape v_text v_names v_bends v_high v_to v_pileSize v_planLine v_planWay v_way1 v_bestWay v_order1 v_placeIn v_bodyKind v_trace v_shelf v_many v_items v_carried) (wd_X9 cI cL cS cH a v_keptMany v_done v_rowsOf v_columnsOf v_folded v_wronged v_tapeMany v_textMany v_base w_at v_ends w_fault w_opened v_bentMany v_bentWrong v_moreWorn v_planned v_allWrong v_allWorn v_z v_wishedField v_isFound v_bestWrong v_bestWorn v_bestMany v_soughtBy v_sought v_soughtAt v_foundMany v_foundOrder v_isKept v_imageRows v_imageColumns v_imageFolded v_imageWronged v_bodies v_ran v_ownKind v_ownNumber v_limit v_changeWas v_changeIs v_shapeRows v_shapeColumns v_row v_column v_below v_face v_worn v_lastBend v_tape v_text v_names v_bends v_high v_to v_pileSize v_planLine v_planWay v_way1 v_bestWay v_order1 v_placeIn v_bodyKind v_trace v_shelf v_many v_items v_carried) (some (.int r))) (hE : 2 ≤ dgo) (hd : dgo + 2 ≤ d) (C0 : mm_Cx p s m args meth c RX9 cX9_sums 4 (some .int) D (mm_T cI cL cS cH) A) (hA : ∀ q, s.heap.size ≤ q → A q) {v_keptMany : Int32} {v_done : Int32} {v_rowsOf : Int32} {v_columnsOf : Int32} {v_folded : Int32} {v_wronged : Int32} {v_tapeMany : Int32} {v_textMany : Int32} {v_bentMany : Int32} {v_bentWrong : Int32} {v_moreWorn : Int32} {v_planned : Int32} {v_allWrong : Int32} {v_allWorn : Int32} {v_z : Int32} {v_wishedField : Int32} {v_isFound : Bool} {v_bestWrong : Int32} {v_bestWorn : Int32} {v_bestMany : Int32} {v_soughtBy : Int32} {v_sought : Int32} {v_soughtAt : Int32} {v_foundMany : Int32} {v_foundOrder : Int32} {v_isKept : Bool} {v_imageRows : Int32} {v_imageColumns : Int32} {v_imageFolded : Int32} {v_imageWronged : Int32} {v_bodies : Int32} {v_ran : Int32} {v_ownKind : Int32} {v_ownNumber : Int32} {v_limit : List Int32} {v_changeWas : List Int32} {v_changeIs : List Int32} {v_shapeRows : List Int32} {v_shapeColumns : List Int32} {v_row : List Int32} {v_column : List Int32} {v_below : List Int32} {v_face : List Int32} {v_worn : List Int32} {v_lastBend : List Int32} {v_bends : List Int32} {v_high : List Int32} {v_to : List Int32} {v_pileSize : List Int32} {v_planLine : List Int32} {v_planWay : List Int32} {v_way1 : List Int32} {v_bestWay : List Int32} {v_order1 : List Int32} {v_placeIn : List Int32} {v_bodyKind : List Int32} {v_trace : List Int32} {v_shelf : List Int32} {v_many : List Int32} {v_items : List Int64} {v_carried : List Int64} {r : Int32} {w_at : Int32} {w_fault : Int32} {w_opened : Int32} (N : Nat) {k_5 : Int32 → Int32 → Int32 → Int32 → Int32 → Int32 → List Int32 → List Int32 → List Int32 → Option (Int32 × Int32 × Int32 × Int32)} (hk_5 : ∀ (x1 : Int32) (v_base : Int32) (v_at : Int32) (v_ends : Int32) (v_fault : Int32) (v_opened : Int32) (v_tape : List Int32) (v_text : List Int32) (v_names : List Int32) (H : Heap) (locs : List Loc) (ls : Array Slot), k_5 x1 v_base v_at v_ends v_fault v_opened v_tape v_text v_names = some (r, w_at, w_fault, w_opened) → va_P D mm_cl (wd_X9 cI cL cS cH a v_keptMany v_done v_rowsOf v_columnsOf v_folded v_wronged v_tapeMany v_textMany v_base v_at v_ends v_fault v_opened v_bentMany v_bentWrong v_moreWorn v_planned v_allWrong v_allWorn v_z v_wishedField v_isFound v_bestWrong v_bestWorn v_bestMany v_soughtBy v_sought v_soughtAt v_foundMany v_foundOrder v_isKept v_imageRows v_imageColumns v_imageFolded v_imageWronged v_bodies v_ran v_ownKind v_ownNumber v_limit v_changeWas v_changeIs v_shapeRows v_shapeColumns v_row v_column v_below v_face v_worn v_lastBend v_tape v_text v_names v_bends v_high v_to v_pileSize v_planLine v_planWay v_way1 v_bestWay v_order1 v_placeIn v_bodyKind v_trace v_shelf v_many v_items v_carried) H → va_D A (wd_X9 cI cL cS cH a v_keptMany v_done v_rowsOf v_columnsOf v_folded v_wronged v_tapeMany v_textMany v_base v_at v_ends v_fault v_opened v_bentMany v_bentWrong v_moreWorn v_planned v_allWrong v_allWorn v_z v_wishedField v_isFound v_bestWrong v_bestWorn v_bestMany v_soughtBy v_sought v_soughtAt v_foundMany v_foundOrder v_isKept v_imageRows v_imageColumns v_imageFolded v_imageWronged v_bodies v_ran v_ownKind v_ownNumber v_limit v_changeWas v_changeIs v_shapeRows v_shapeColumns v_row v_column v_below v_face v_worn v_lastBend v_tape v_text v_names v_bends v_high v_to v_pileSize v_planLine v_planWay v_way1 v_bestWay v_order1 v_placeIn v_bodyKind v_trace v_shelf v_many v_items v_carried) → va_S A s.heap H locs → lv_has ls 4 [(0, .ref (a 0)), (1, .int x1)] → W p l e (mm_rr d) s m args below meth c H locs 0 0 (mm_Z below D A (wd_X9 cI cL cS cH a v_keptMany v_done v_rowsOf v_columnsOf v_folded v_wronged v_tapeMany v_textMany v_base w_at v_ends w_fault w_opened v_bentMany v_bentWrong v_moreWorn v_planned v_allWrong v_allWorn v_z v_wishedField v_isFound v_bestWrong v_bestWorn v_bestMany v_soughtBy v_sought v_soughtAt v_foundMany v_foundOrder v_isKept v_imageRows v_imageColumns v_imageFolded v_imageWronged v_bodies v_ran v_ownKind v_ownNumber v_limit v_changeWas v_changeIs v_shapeRows v_shapeColumns v_row v_column v_below v_face v_worn v_lastBend v_tape v_text v_names v_bends v_high v_to v_pileSize v_planLine v_planWay v_way1 v_bestWay v_order1 v_placeIn v_bodyKind v_trace v_shelf v_many v_items v_carried) (some (.int r)) args s) (F0 m 5 ls [])) : ∀ (s0 : Int32) (v_base : Int32) (v_at : Int32) (v_ends : Int32) (v_fault : Int32) (v_opened : Int32) (v_tape : List Int32) (v_text : List Int32) (v_names : List Int32) (H : Heap) (locs : List Loc) (ls : Array Slot), fX9_sums_73 N go k_5 s0 v_base v_at v_ends v_fault v_opened v_tape v_text v_names = some (r, w_at, w_fault, w_opened) → va_P D mm_cl (wd_X9 cI cL cS cH a v_keptMany v_done v_rowsOf v_columnsOf v_folded v_wronged v_tapeMany v_textMany v_base v_at v_ends v_fault v_opened v_bentMany v_bentWrong v_moreWorn v_planned v_allWrong v_allWorn v_z v_wishedField v_isFound v_bestWrong v_bestWorn v_bestMany v_soughtBy v_sought v_soughtAt v_foundMany v_foundOrder v_isKept v_imageRows v_imageColumns v_imageFolded v_imageWronged v_bodies v_ran v_ownKind v_ownNumber v_limit v_changeWas v_changeIs v_shapeRows v_shapeColumns v_row v_column v_below v_face v_worn v_lastBend v_tape v_text v_names v_bends v_high v_to v_pileSize v_planLine v_planWay v_way1 v_bestWay v_order1 v_placeIn v_bodyKind v_trace v_shelf v_many v_items v_carried) H → va_D A (wd_X9 cI cL cS cH a v_keptMany v_done v_rowsOf v_columnsOf v_folded v_wronged v_tapeMany v_textMany v_base v_at v_ends v_fault v_opened v_bentMany v_bentWrong v_moreWorn v_planned v_allWrong v_allWorn v_z v_wishedField v_isFound v_bestWrong v_bestWorn v_bestMany v_soughtBy v_sought v_soughtAt v_foundMany v_foundOrder v_isKept v_imageRows v_imageColumns v_imageFolded v_imageWronged v_bodies v_ran v_ownKind v_ownNumber v_limit v_changeWas v_changeIs v_shapeRows v_shapeColumns v_row v_column v_below v_face v_worn v_lastBend v_tape v_text v_names v_bends v_high v_to v_pileSize v_planLine v_planWay v_way1 v_bestWay v_order1 v_placeIn v_bodyKind v_trace v_shelf v_many v_items v_carried) → va_S A s.heap H locs → lv_has ls 4 [(0, .ref (a 0))] → W p l e (mm_rr d) s m args below meth c H locs 0 0 (mm_Z below D A (wd_X9 cI cL cS cH a v_keptMany v_done v_rowsOf v_columnsOf v_folded v_wronged v_tapeMany v_textMany v_base w_at v_ends w_fault w_opened v_bentMany v_bentWrong v_moreWorn v_planned v_allWrong v_allWorn v_z v_wishedField v_isFound v_bestWrong v_bestWorn v_bestMany v_soughtBy v_sought v_soughtAt v_foundMany v_foundOrder v_isKept v_imageRows v_imageColumns v_imageFolded v_imageWronged v_bodies v_ran v_ownKind v_ownNumber v_limit v_changeWas v_changeIs v_shapeRows v_shapeColumns v_row v_column v_below v_face v_worn v_lastBend v_tape v_text v_names v_bends v_high v_to v_pileSize v_planLine v_planWay v_way1 v_bestWay v_order1 v_placeIn v_bodyKind v_trace v_shelf v_many v_items v_carried) (some (.int r)) args s) (F0 m 73 ls [.int s0]) := by
  obtain ⟨hx, hb, hml, hown, hts, hr, hlocks, hK, hSt⟩ := id C0
  intro s0 v_base v_at v_ends v_fault v_opened v_tape v_text v_names H locs ls hf hP hD hS hl
  unfold fX9_sums_73 at hf
  refine lv_istore_n (lv' := [(1, .int s0), (0, .ref (a 0))]) hx hb dX9_sums_73 rfl hl (by decide) rfl (fun ls hl => ?_)
  refine lv_goto (tgt := 5) hx hb dX9_sums_74 (by decide) ?_
  exact hk_5 _ _ _ _ _ _ _ _ _ H locs ls hf hP hD hS (lv_sub hl [1, 0] rfl)

def fX9_sums_44 (N : Nat) (go : Int32 → Int32 → Int32 → Int32 → Int32 → List Int32 → List Int32 → List Int32 → Option (Int32 × Int32 × Int32 × Int32)) (k_5 : Int32 → Int32 → Int32 → Int32 → Int32 → Int32 → List Int32 → List Int32 → List Int32 → Option (Int32 × Int32 × Int32 × Int32)) (x1 : Int32) (s0 : Int32) (v_base : Int32) (v_at : Int32) (v_ends : Int32) (v_fault : Int32) (v_opened : Int32) (v_tape : List Int32) (v_text : List Int32) (v_names : List Int32) : Option (Int32 × Int32 × Int32 × Int32) :=
    mm_nm ((v_at + (1 : Int32))) (fun (y_16 : Int32) =>
    mm_bd4 (fX9_product N go v_base y_16 v_ends v_fault v_opened v_tape v_text v_names) (fun (r_17 : Int32) (w_18 : Int32) (w_19 : Int32) (w_20 : Int32) =>
    if s0 = 0 then
    (fX9_sums_73 N go k_5 (x1 - r_17) v_base w_18 v_ends w_19 w_20 v_tape v_text v_names)
    else (fX9_sums_73 N go k_5 (x1 + r_17) v_base w_18 v_ends w_19 w_20 v_tape v_text v_names)))

set_option maxHeartbeats 4000000 in
set_option maxRecDepth 100000 in
theorem tX9_sums_44 {p : Program} {l : Launch} {e : Env} {s : State} {m : MethodId} {args : Array Value} {below : List Frame} {meth : Method} {c : Code} {D : va_G} {cI cL cS cH : ClassId} {A : Nat → Prop} {d : Nat} {a : Nat → Nat} {go : Int32 → Int32 → Int32 → Int32 → Int32 → List Int32 → List Int32 → List Int32 → Option (Int32 × Int32 × Int32 × Int32)} {dgo : Nat} (hgo : ∀ (a : Nat → Nat) (v_keptMany : Int32) (v_done : Int32) (v_rowsOf : Int32) (v_columnsOf : Int32) (v_folded : Int32) (v_wronged : Int32) (v_tapeMany : Int32) (v_textMany : Int32) (v_base : Int32) (v_at : Int32) (v_ends : Int32) (v_fault : Int32) (v_opened : Int32) (v_bentMany : Int32) (v_bentWrong : Int32) (v_moreWorn : Int32) (v_planned : Int32) (v_allWrong : Int32) (v_allWorn : Int32) (v_z : Int32) (v_wishedField : Int32) (v_isFound : Bool) (v_bestWrong : Int32) (v_bestWorn : Int32) (v_bestMany : Int32) (v_soughtBy : Int32) (v_sought : Int32) (v_soughtAt : Int32) (v_foundMany : Int32) (v_foundOrder : Int32) (v_isKept : Bool) (v_imageRows : Int32) (v_imageColumns : Int32) (v_imageFolded : Int32) (v_imageWronged : Int32) (v_bodies : Int32) (v_ran : Int32) (v_ownKind : Int32) (v_ownNumber : Int32) (v_limit : List Int32) (v_changeWas : List Int32) (v_changeIs : List Int32) (v_shapeRows : List Int32) (v_shapeColumns : List Int32) (v_row : List Int32) (v_column : List Int32) (v_below : List Int32) (v_face : List Int32) (v_worn : List Int32) (v_lastBend : List Int32) (v_tape : List Int32) (v_text : List Int32) (v_names : List Int32) (v_bends : List Int32) (v_high : List Int32) (v_to : List Int32) (v_pileSize : List Int32) (v_planLine : List Int32) (v_planWay : List Int32) (v_way1 : List Int32) (v_bestWay : List Int32) (v_order1 : List Int32) (v_placeIn : List Int32) (v_bodyKind : List Int32) (v_trace : List Int32) (v_shelf : List Int32) (v_many : List Int32) (v_items : List Int64) (v_carried : List Int64) (r : Int32) (w_at : Int32) (w_fault : Int32) (w_opened : Int32), go v_base v_at v_ends v_fault v_opened v_tape v_text v_names = some (r, w_at, w_fault, w_opened) → mm_Ct l yX9_one cX9_one 5 (some .int) dgo D (mm_T cI cL cS cH) [.ref (a 0)] (wd_X9 cI cL cS cH a v_keptMany v_done v_rowsOf v_columnsOf v_folded v_wronged v_tapeMany v_textMany v_base v_at v_ends v_fault v_opened v_bentMany v_bentWrong v_moreWorn v_planned v_allWrong v_allWorn v_z v_wishedField v_isFound v_bestWrong v_bestWorn v_bestMany v_soughtBy v_sought v_soughtAt v_foundMany v_foundOrder v_isKept v_imageRows v_imageColumns v_imageFolded v_imageWronged v_bodies v_ran v_ownKind v_ownNumber v_limit v_changeWas v_changeIs v_shapeRows v_shapeColumns v_row v_column v_below v_face v_worn v_lastBend v_tape v_text v_names v_bends v_high v_to v_pileSize v_planLine v_planWay v_way1 v_bestWay v_order1 v_placeIn v_bodyKind v_trace v_shelf v_many v_items v_carried) (wd_X9 cI cL cS cH a v_keptMany v_done v_rowsOf v_columnsOf v_folded v_wronged v_tapeMany v_textMany v_base w_at v_ends w_fault w_opened v_bentMany v_bentWrong v_moreWorn v_planned v_allWrong v_allWorn v_z v_wishedField v_isFound v_bestWrong v_bestWorn v_bestMany v_soughtBy v_sought v_soughtAt v_foundMany v_foundOrder v_isKept v_imageRows v_imageColumns v_imageFolded v_imageWronged v_bodies v_ran v_ownKind v_ownNumber v_limit v_changeWas v_changeIs v_shapeRows v_shapeColumns v_row v_column v_below v_face v_worn v_lastBend v_tape v_text v_names v_bends v_high v_to v_pileSize v_planLine v_planWay v_way1 v_bestWay v_order1 v_placeIn v_bodyKind v_trace v_shelf v_many v_items v_carried) (some (.int r))) (hE : 2 ≤ dgo) (hd : dgo + 2 ≤ d) (C0 : mm_Cx p s m args meth c RX9 cX9_sums 4 (some .int) D (mm_T cI cL cS cH) A) (hA : ∀ q, s.heap.size ≤ q → A q) {v_keptMany : Int32} {v_done : Int32} {v_rowsOf : Int32} {v_columnsOf : Int32} {v_folded : Int32} {v_wronged : Int32} {v_tapeMany : Int32} {v_textMany : Int32} {v_bentMany : Int32} {v_bentWrong : Int32} {v_moreWorn : Int32} {v_planned : Int32} {v_allWrong : Int32} {v_allWorn : Int32} {v_z : Int32} {v_wishedField : Int32} {v_isFound : Bool} {v_bestWrong : Int32} {v_bestWorn : Int32} {v_bestMany : Int32} {v_soughtBy : Int32} {v_sought : Int32} {v_soughtAt : Int32} {v_foundMany : Int32} {v_foundOrder : Int32} {v_isKept : Bool} {v_imageRows : Int32} {v_imageColumns : Int32} {v_imageFolded : Int32} {v_imageWronged : Int32} {v_bodies : Int32} {v_ran : Int32} {v_ownKind : Int32} {v_ownNumber : Int32} {v_limit : List Int32} {v_changeWas : List Int32} {v_changeIs : List Int32} {v_shapeRows : List Int32} {v_shapeColumns : List Int32} {v_row : List Int32} {v_column : List Int32} {v_below : List Int32} {v_face : List Int32} {v_worn : List Int32} {v_lastBend : List Int32} {v_bends : List Int32} {v_high : List Int32} {v_to : List Int32} {v_pileSize : List Int32} {v_planLine : List Int32} {v_planWay : List Int32} {v_way1 : List Int32} {v_bestWay : List Int32} {v_order1 : List Int32} {v_placeIn : List Int32} {v_bodyKind : List Int32} {v_trace : List Int32} {v_shelf : List Int32} {v_many : List Int32} {v_items : List Int64} {v_carried : List Int64} {r : Int32} {w_at : Int32} {w_fault : Int32} {w_opened : Int32} (N : Nat) {k_5 : Int32 → Int32 → Int32 → Int32 → Int32 → Int32 → List Int32 → List Int32 → List Int32 → Option (Int32 × Int32 × Int32 × Int32)} (hk_5 : ∀ (x1 : Int32) (v_base : Int32) (v_at : Int32) (v_ends : Int32) (v_fault : Int32) (v_opened : Int32) (v_tape : List Int32) (v_text : List Int32) (v_names : List Int32) (H : Heap) (locs : List Loc) (ls : Array Slot), k_5 x1 v_base v_at v_ends v_fault v_opened v_tape v_text v_names = some (r, w_at, w_fault, w_opened) → va_P D mm_cl (wd_X9 cI cL cS cH a v_keptMany v_done v_rowsOf v_columnsOf v_folded v_wronged v_tapeMany v_textMany v_base v_at v_ends v_fault v_opened v_bentMany v_bentWrong v_moreWorn v_planned v_allWrong v_allWorn v_z v_wishedField v_isFound v_bestWrong v_bestWorn v_bestMany v_soughtBy v_sought v_soughtAt v_foundMany v_foundOrder v_isKept v_imageRows v_imageColumns v_imageFolded v_imageWronged v_bodies v_ran v_ownKind v_ownNumber v_limit v_changeWas v_changeIs v_shapeRows v_shapeColumns v_row v_column v_below v_face v_worn v_lastBend v_tape v_text v_names v_bends v_high v_to v_pileSize v_planLine v_planWay v_way1 v_bestWay v_order1 v_placeIn v_bodyKind v_trace v_shelf v_many v_items v_carried) H → va_D A (wd_X9 cI cL cS cH a v_keptMany v_done v_rowsOf v_columnsOf v_folded v_wronged v_tapeMany v_textMany v_base v_at v_ends v_fault v_opened v_bentMany v_bentWrong v_moreWorn v_planned v_allWrong v_allWorn v_z v_wishedField v_isFound v_bestWrong v_bestWorn v_bestMany v_soughtBy v_sought v_soughtAt v_foundMany v_foundOrder v_isKept v_imageRows v_imageColumns v_imageFolded v_imageWronged v_bodies v_ran v_ownKind v_ownNumber v_limit v_changeWas v_changeIs v_shapeRows v_shapeColumns v_row v_column v_below v_face v_worn v_lastBend v_tape v_text v_names v_bends v_high v_to v_pileSize v_planLine v_planWay v_way1 v_bestWay v_order1 v_placeIn v_bodyKind v_trace v_shelf v_many v_items v_carried) → va_S A s.heap H locs → lv_has ls 4 [(0, .ref (a 0)), (1, .int x1)] → W p l e (mm_rr d) s m args below meth c H locs 0 0 (mm_Z below D A (wd_X9 cI cL cS cH a v_keptMany v_done v_rowsOf v_columnsOf v_folded v_wronged v_tapeMany v_textMany v_base w_at v_ends w_fault w_opened v_bentMany v_bentWrong v_moreWorn v_planned v_allWrong v_allWorn v_z v_wishedField v_isFound v_bestWrong v_bestWorn v_bestMany v_soughtBy v_sought v_soughtAt v_foundMany v_foundOrder v_isKept v_imageRows v_imageColumns v_imageFolded v_imageWronged v_bodies v_ran v_ownKind v_ownNumber v_limit v_changeWas v_changeIs v_shapeRows v_shapeColumns v_row v_column v_below v_face v_worn v_lastBend v_tape v_text v_names v_bends v_high v_to v_pileSize v_planLine v_planWay v_way1 v_bestWay v_order1 v_placeIn v_bodyKind v_trace v_shelf v_many v_items v_carried) (some (.int r)) args s) (F0 m 5 ls [])) : ∀ (x1 : Int32) (s0 : Int32) (v_base : Int32) (v_at : Int32) (v_ends : Int32) (v_fault : Int32) (v_opened : Int32) (v_tape : List Int32) (v_text : List Int32) (v_names : List Int32) (H : Heap) (locs : List Loc) (ls : Array Slot), fX9_sums_44 N go k_5 x1 s0 v_base v_at v_ends v_fault v_opened v_tape v_text v_names = some (r, w_at, w_fault, w_opened) → va_P D mm_cl (wd_X9 cI cL cS cH a v_keptMany v_done v_rowsOf v_columnsOf v_folded v_wronged v_tapeMany v_textMany v_base v_at v_ends v_fault v_opened v_bentMany v_bentWrong v_moreWorn v_planned v_allWrong v_allWorn v_z v_wishedField v_isFound v_bestWrong v_bestWorn v_bestMany v_soughtBy v_sought v_soughtAt v_foundMany v_foundOrder v_isKept v_imageRows v_imageColumns v_imageFolded v_imageWronged v_bodies v_ran v_ownKind v_ownNumber v_limit v_changeWas v_changeIs v_shapeRows v_shapeColumns v_row v_column v_below v_face v_worn v_lastBend v_tape v_text v_names v_bends v_high v_to v_pileSize v_planLine v_planWay v_way1 v_bestWay v_order1 v_placeIn v_bodyKind v_trace v_shelf v_many v_items v_carried) H → va_D A (wd_X9 cI cL cS cH a v_keptMany v_done v_rowsOf v_columnsOf v_folded v_wronged v_tapeMany v_textMany v_base v_at v_ends v_fault v_opened v_bentMany v_bentWrong v_moreWorn v_planned v_allWrong v_allWorn v_z v_wishedField v_isFound v_bestWrong v_bestWorn v_bestMany v_soughtBy v_sought v_soughtAt v_foundMany v_foundOrder v_isKept v_imageRows v_imageColumns v_imageFolded v_imageWronged v_bodies v_ran v_ownKind v_ownNumber v_limit v_changeWas v_changeIs v_shapeRows v_shapeColumns v_row v_column v_below v_face v_worn v_lastBend v_tape v_text v_names v_bends v_high v_to v_pileSize v_planLine v_planWay v_way1 v_bestWay v_order1 v_placeIn v_bodyKind v_trace v_shelf v_many v_items v_carried) → va_S A s.heap H locs → lv_has ls 4 [(0, .ref (a 0)), (1, .int x1)] → W p l e (mm_rr d) s m args below meth c H locs 0 0 (mm_Z below D A (wd_X9 cI cL cS cH a v_keptMany v_done v_rowsOf v_columnsOf v_folded v_wronged v_tapeMany v_textMany v_base w_at v_ends w_fault w_opened v_bentMany v_bentWrong v_moreWorn v_planned v_allWrong v_allWorn v_z v_wishedField v_isFound v_bestWrong v_bestWorn v_bestMany v_soughtBy v_sought v_soughtAt v_foundMany v_foundOrder v_isKept v_imageRows v_imageColumns v_imageFolded v_imageWronged v_bodies v_ran v_ownKind v_ownNumber v_limit v_changeWas v_changeIs v_shapeRows v_shapeColumns v_row v_column v_below v_face v_worn v_lastBend v_tape v_text v_names v_bends v_high v_to v_pileSize v_planLine v_planWay v_way1 v_bestWay v_order1 v_placeIn v_bodyKind v_trace v_shelf v_many v_items v_carried) (some (.int r)) args s) (F0 m 44 ls [.int s0]) := by
  obtain ⟨hx, hb, hml, hown, hts, hr, hlocks, hK, hSt⟩ := id C0
  intro x1 s0 v_base v_at v_ends v_fault v_opened v_tape v_text v_names H locs ls hf hP hD hS hl
  unfold fX9_sums_44 at hf
  refine lv_istore_n (lv' := [(2, .int s0), (0, .ref (a 0)), (1, .int x1)]) hx hb dX9_sums_44 rfl hl (by decide) rfl (fun ls hl => ?_)
  refine lv_aload_n hx hb dX9_sums_45 rfl (lv_at hl 1 rfl) ?_
  refine lv_dup hx hb dX9_sums_46 rfl ?_
  refine mm_get C0 hP iw_X9 0 rfl rfl 22 (by decide) fl_X9_150 rfl dX9_sums_47 ?_
  refine lv_iconst (v := 1) hx hb dX9_sums_50 (by decide) ?_
  refine lv_iadd hx hb dX9_sums_51 ?_
  refine lv_topi (fun y_16 ey_16 => ?_)
  have hf := mm_nms hf ey_16
  refine mm_put C0 hP hD hS iw_X9 tyX9 tyX9_ok nmX9 0 rfl rfl 22 (by decide) fl_X9_150 rfl rfl rfl (Nat.le_of_ble_eq_true rfl) dX9_sums_52 (w2 := (wd_X9 cI cL cS cH a v_keptMany v_done v_rowsOf v_columnsOf v_folded v_wronged v_tapeMany v_textMany v_base y_16 v_ends v_fault v_opened v_bentMany v_bentWrong v_moreWorn v_planned v_allWrong v_allWorn v_z v_wishedField v_isFound v_bestWrong v_bestWorn v_bestMany v_soughtBy v_sought v_soughtAt v_foundMany v_foundOrder v_isKept v_imageRows v_imageColumns v_imageFolded v_imageWronged v_bodies v_ran v_ownKind v_ownNumber v_limit v_changeWas v_changeIs v_shapeRows v_shapeColumns v_row v_column v_below v_face v_worn v_lastBend v_tape v_text v_names v_bends v_high v_to v_pileSize v_planLine v_planWay v_way1 v_bestWay v_order1 v_placeIn v_bodyKind v_trace v_shelf v_many v_items v_carried)) rfl (fun H locs hP hD hS => ?_)
  refine lv_aload_n hx hb dX9_sums_55 rfl (lv_at hl 1 rfl) ?_
  obtain ⟨r_17, w_18, w_19, w_20, hc_21, hf⟩ := mm_bd4s hf
  refine mm_callVF (q0 := 0) (ci := 9) (rest := []) C0 lk_X9_178 (ctX9_product (a := a) (d := d - 1) hgo hE (by omega) hc_21) (by omega) rfl hl.1 rfl (mm_cat rfl) dX9_sums_56 hP hD hA hS rfl rfl (fun H locs hP hD hS => ?_)
  refine W.eq (g2 := F0 m 59 ls [.int r_17]) rfl ?_
  refine lv_istore_n (lv' := [(3, .int r_17), (2, .int s0), (0, .ref (a 0)), (1, .int x1)]) hx hb dX9_sums_59 rfl hl (by decide) rfl (fun ls hl => ?_)
  refine lv_iload_n hx hb dX9_sums_60 rfl (lv_at hl 1 rfl) ?_
  refine lv_if_eq (tgt := 70) hx hb dX9_sums_61 (by decide) (fun c_22 => ?_) (fun c_22 => ?_)
  · have hf := mm_ip hf c_22
    refine lv_iload_n hx hb dX9_sums_70 rfl (lv_at hl 3 rfl) ?_
    refine lv_iload_n hx hb dX9_sums_71 rfl (lv_at hl 0 rfl) ?_
    refine lv_isub hx hb dX9_sums_72 ?_
    exact tX9_sums_73 hgo hE hd C0 hA N hk_5 _ _ _ _ _ _ _ _ _ H locs ls hf hP hD hS (lv_sub hl [2] rfl)
  · have hf := mm_in hf c_22
    refine lv_iload_n hx hb dX9_sums_64 rfl (lv_at hl 3 rfl) ?_
    refine lv_iload_n hx hb dX9_sums_65 rfl (lv_at hl 0 rfl) ?_
    refine lv_iadd hx hb dX9_sums_66 ?_
    refine lv_goto (tgt := 73) hx hb dX9_sums_67 (by decide) ?_
    exact tX9_sums_73 hgo hE hd C0 hA N hk_5 _ _ _ _ _ _ _ _ _ H locs ls hf hP hD hS (lv_sub hl [2] rfl)

def fX9_sums_30 (N : Nat) (go : Int32 → Int32 → Int32 → Int32 → Int32 → List Int32 → List Int32 → List Int32 → Option (Int32 × Int32 × Int32 × Int32)) (k_5 : Int32 → Int32 → Int32 → Int32 → Int32 → Int32 → List Int32 → List Int32 → List Int32 → Option (Int32 × Int32 × Int32 × Int32)) (x1 : Int32) (v_base : Int32) (v_at : Int32) (v_ends : Int32) (v_fault : Int32) (v_opened : Int32) (v_tape : List Int32) (v_text : List Int32) (v_names : List Int32) : Option (Int32 × Int32 × Int32 × Int32) :=
    mm_bd1 (fX9_byteAt N v_base v_at v_ends v_tape v_text) (fun (r_13 : Int32) =>
    if r_13 = (43 : Int32) then
    (fX9_sums_44 N go k_5 x1 (1 : Int32) v_base v_at v_ends v_fault v_opened v_tape v_text v_names)
    else (fX9_sums_44 N go k_5 x1 (0 : Int32) v_base v_at v_ends v_fault v_opened v_tape v_text v_names))

set_option maxHeartbeats 4000000 in
set_option maxRecDepth 100000 in
theorem tX9_sums_30 {p : Program} {l : Launch} {e : Env} {s : State} {m : MethodId} {args : Array Value} {below : List Frame} {meth : Method} {c : Code} {D : va_G} {cI cL cS cH : ClassId} {A : Nat → Prop} {d : Nat} {a : Nat → Nat} {go : Int32 → Int32 → Int32 → Int32 → Int32 → List Int32 → List Int32 → List Int32 → Option (Int32 × Int32 × Int32 × Int32)} {dgo : Nat} (hgo : ∀ (a : Nat → Nat) (v_keptMany : Int32) (v_done : Int32) (v_rowsOf : Int32) (v_columnsOf : Int32) (v_folded : Int32) (v_wronged : Int32) (v_tapeMany : Int32) (v_textMany : Int32) (v_base : Int32) (v_at : Int32) (v_ends : Int32) (v_fault : Int32) (v_opened : Int32) (v_bentMany : Int32) (v_bentWrong : Int32) (v_moreWorn : Int32) (v_planned : Int32) (v_allWrong : Int32) (v_allWorn : Int32) (v_z : Int32) (v_wishedField : Int32) (v_isFound : Bool) (v_bestWrong : Int32) (v_bestWorn : Int32) (v_bestMany : Int32) (v_soughtBy : Int32) (v_sought : Int32) (v_soughtAt : Int32) (v_foundMany : Int32) (v_foundOrder : Int32) (v_isKept : Bool) (v_imageRows : Int32) (v_imageColumns : Int32) (v_imageFolded : Int32) (v_imageWronged : Int32) (v_bodies : Int32) (v_ran : Int32) (v_ownKind : Int32) (v_ownNumber : Int32) (v_limit : List Int32) (v_changeWas : List Int32) (v_changeIs : List Int32) (v_shapeRows : List Int32) (v_shapeColumns : List Int32) (v_row : List Int32) (v_column : List Int32) (v_below : List Int32) (v_face : List Int32) (v_worn : List Int32) (v_lastBend : List Int32) (v_tape : List Int32) (v_text : List Int32) (v_names : List Int32) (v_bends : List Int32) (v_high : List Int32) (v_to : List Int32) (v_pileSize : List Int32) (v_planLine : List Int32) (v_planWay : List Int32) (v_way1 : List Int32) (v_bestWay : List Int32) (v_order1 : List Int32) (v_placeIn : List Int32) (v_bodyKind : List Int32) (v_trace : List Int32) (v_shelf : List Int32) (v_many : List Int32) (v_items : List Int64) (v_carried : List Int64) (r : Int32) (w_at : Int32) (w_fault : Int32) (w_opened : Int32), go v_base v_at v_ends v_fault v_opened v_tape v_text v_names = some (r, w_at, w_fault, w_opened) → mm_Ct l yX9_one cX9_one 5 (some .int) dgo D (mm_T cI cL cS cH) [.ref (a 0)] (wd_X9 cI cL cS cH a v_keptMany v_done v_rowsOf v_columnsOf v_folded v_wronged v_tapeMany v_textMany v_base v_at v_ends v_fault v_opened v_bentMany v_bentWrong v_moreWorn v_planned v_allWrong v_allWorn v_z v_wishedField v_isFound v_bestWrong v_bestWorn v_bestMany v_soughtBy v_sought v_soughtAt v_foundMany v_foundOrder v_isKept v_imageRows v_imageColumns v_imageFolded v_imageWronged v_bodies v_ran v_ownKind v_ownNumber v_limit v_changeWas v_changeIs v_shapeRows v_shapeColumns v_row v_column v_below v_face v_worn v_lastBend v_tape v_text v_names v_bends v_high v_to v_pileSize v_planLine v_planWay v_way1 v_bestWay v_order1 v_placeIn v_bodyKind v_trace v_shelf v_many v_items v_carried) (wd_X9 cI cL cS cH a v_keptMany v_done v_rowsOf v_columnsOf v_folded v_wronged v_tapeMany v_textMany v_base w_at v_ends w_fault w_opened v_bentMany v_bentWrong v_moreWorn v_planned v_allWrong v_allWorn v_z v_wishedField v_isFound v_bestWrong v_bestWorn v_bestMany v_soughtBy v_sought v_soughtAt v_foundMany v_foundOrder v_isKept v_imageRows v_imageColumns v_imageFolded v_imageWronged v_bodies v_ran v_ownKind v_ownNumber v_limit v_changeWas v_changeIs v_shapeRows v_shapeColumns v_row v_column v_below v_face v_worn v_lastBend v_tape v_text v_names v_bends v_high v_to v_pileSize v_planLine v_planWay v_way1 v_bestWay v_order1 v_placeIn v_bodyKind v_trace v_shelf v_many v_items v_carried) (some (.int r))) (hE : 2 ≤ dgo) (hd : dgo + 2 ≤ d) (C0 : mm_Cx p s m args meth c RX9 cX9_sums 4 (some .int) D (mm_T cI cL cS cH) A) (hA : ∀ q, s.heap.size ≤ q → A q) {v_keptMany : Int32} {v_done : Int32} {v_rowsOf : Int32} {v_columnsOf : Int32} {v_folded : Int32} {v_wronged : Int32} {v_tapeMany : Int32} {v_textMany : Int32} {v_bentMany : Int32} {v_bentWrong : Int32} {v_moreWorn : Int32} {v_planned : Int32} {v_allWrong : Int32} {v_allWorn : Int32} {v_z : Int32} {v_wishedField : Int32} {v_isFound : Bool} {v_bestWrong : Int32} {v_bestWorn : Int32} {v_bestMany : Int32} {v_soughtBy : Int32} {v_sought : Int32} {v_soughtAt : Int32} {v_foundMany : Int32} {v_foundOrder : Int32} {v_isKept : Bool} {v_imageRows : Int32} {v_imageColumns : Int32} {v_imageFolded : Int32} {v_imageWronged : Int32} {v_bodies : Int32} {v_ran : Int32} {v_ownKind : Int32} {v_ownNumber : Int32} {v_limit : List Int32} {v_changeWas : List Int32} {v_changeIs : List Int32} {v_shapeRows : List Int32} {v_shapeColumns : List Int32} {v_row : List Int32} {v_column : List Int32} {v_below : List Int32} {v_face : List Int32} {v_worn : List Int32} {v_lastBend : List Int32} {v_bends : List Int32} {v_high : List Int32} {v_to : List Int32} {v_pileSize : List Int32} {v_planLine : List Int32} {v_planWay : List Int32} {v_way1 : List Int32} {v_bestWay : List Int32} {v_order1 : List Int32} {v_placeIn : List Int32} {v_bodyKind : List Int32} {v_trace : List Int32} {v_shelf : List Int32} {v_many : List Int32} {v_items : List Int64} {v_carried : List Int64} {r : Int32} {w_at : Int32} {w_fault : Int32} {w_opened : Int32} (N : Nat) {k_5 : Int32 → Int32 → Int32 → Int32 → Int32 → Int32 → List Int32 → List Int32 → List Int32 → Option (Int32 × Int32 × Int32 × Int32)} (hk_5 : ∀ (x1 : Int32) (v_base : Int32) (v_at : Int32) (v_ends : Int32) (v_fault : Int32) (v_opened : Int32) (v_tape : List Int32) (v_text : List Int32) (v_names : List Int32) (H : Heap) (locs : List Loc) (ls : Array Slot), k_5 x1 v_base v_at v_ends v_fault v_opened v_tape v_text v_names = some (r, w_at, w_fault, w_opened) → va_P D mm_cl (wd_X9 cI cL cS cH a v_keptMany v_done v_rowsOf v_columnsOf v_folded v_wronged v_tapeMany v_textMany v_base v_at v_ends v_fault v_opened v_bentMany v_bentWrong v_moreWorn v_planned v_allWrong v_allWorn v_z v_wishedField v_isFound v_bestWrong v_bestWorn v_bestMany v_soughtBy v_sought v_soughtAt v_foundMany v_foundOrder v_isKept v_imageRows v_imageColumns v_imageFolded v_imageWronged v_bodies v_ran v_ownKind v_ownNumber v_limit v_changeWas v_changeIs v_shapeRows v_shapeColumns v_row v_column v_below v_face v_worn v_lastBend v_tape v_text v_names v_bends v_high v_to v_pileSize v_planLine v_planWay v_way1 v_bestWay v_order1 v_placeIn v_bodyKind v_trace v_shelf v_many v_items v_carried) H → va_D A (wd_X9 cI cL cS cH a v_keptMany v_done v_rowsOf v_columnsOf v_folded v_wronged v_tapeMany v_textMany v_base v_at v_ends v_fault v_opened v_bentMany v_bentWrong v_moreWorn v_planned v_allWrong v_allWorn v_z v_wishedField v_isFound v_bestWrong v_bestWorn v_bestMany v_soughtBy v_sought v_soughtAt v_foundMany v_foundOrder v_isKept v_imageRows v_imageColumns v_imageFolded v_imageWronged v_bodies v_ran v_ownKind v_ownNumber v_limit v_changeWas v_changeIs v_shapeRows v_shapeColumns v_row v_column v_below v_face v_worn v_lastBend v_tape v_text v_names v_bends v_high v_to v_pileSize v_planLine v_planWay v_way1 v_bestWay v_order1 v_placeIn v_bodyKind v_trace v_shelf v_many v_items v_carried) → va_S A s.heap H locs → lv_has ls 4 [(0, .ref (a 0)), (1, .int x1)] → W p l e (mm_rr d) s m args below meth c H locs 0 0 (mm_Z below D A (wd_X9 cI cL cS cH a v_keptMany v_done v_rowsOf v_columnsOf v_folded v_wronged v_tapeMany v_textMany v_base w_at v_ends w_fault w_opened v_bentMany v_bentWrong v_moreWorn v_planned v_allWrong v_allWorn v_z v_wishedField v_isFound v_bestWrong v_bestWorn v_bestMany v_soughtBy v_sought v_soughtAt v_foundMany v_foundOrder v_isKept v_imageRows v_imageColumns v_imageFolded v_imageWronged v_bodies v_ran v_ownKind v_ownNumber v_limit v_changeWas v_changeIs v_shapeRows v_shapeColumns v_row v_column v_below v_face v_worn v_lastBend v_tape v_text v_names v_bends v_high v_to v_pileSize v_planLine v_planWay v_way1 v_bestWay v_order1 v_placeIn v_bodyKind v_trace v_shelf v_many v_items v_carried) (some (.int r)) args s) (F0 m 5 ls [])) : ∀ (x1 : Int32) (v_base : Int32) (v_at : Int32) (v_ends : Int32) (v_fault : Int32) (v_opened : Int32) (v_tape : List Int32) (v_text : List Int32) (v_names : List Int32) (H : Heap) (locs : List Loc) (ls : Array Slot), fX9_sums_30 N go k_5 x1 v_base v_at v_ends v_fault v_opened v_tape v_text v_names = some (r, w_at, w_fault, w_opened) → va_P D mm_cl (wd_X9 cI cL cS cH a v_keptMany v_done v_rowsOf v_columnsOf v_folded v_wronged v_tapeMany v_textMany v_base v_at v_ends v_fault v_opened v_bentMany v_bentWrong v_moreWorn v_planned v_allWrong v_allWorn v_z v_wishedField v_isFound v_bestWrong v_bestWorn v_bestMany v_soughtBy v_sought v_soughtAt v_foundMany v_foundOrder v_isKept v_imageRows v_imageColumns v_imageFolded v_imageWronged v_bodies v_ran v_ownKind v_ownNumber v_limit v_changeWas v_changeIs v_shapeRows v_shapeColumns v_row v_column v_below v_face v_worn v_lastBend v_tape v_text v_names v_bends v_high v_to v_pileSize v_planLine v_planWay v_way1 v_bestWay v_order1 v_placeIn v_bodyKind v_trace v_shelf v_many v_items v_carried) H → va_D A (wd_X9 cI cL cS cH a v_keptMany v_done v_rowsOf v_columnsOf v_folded v_wronged v_tapeMany v_textMany v_base v_at v_ends v_fault v_opened v_bentMany v_bentWrong v_moreWorn v_planned v_allWrong v_allWorn v_z v_wishedField v_isFound v_bestWrong v_bestWorn v_bestMany v_soughtBy v_sought v_soughtAt v_foundMany v_foundOrder v_isKept v_imageRows v_imageColumns v_imageFolded v_imageWronged v_bodies v_ran v_ownKind v_ownNumber v_limit v_changeWas v_changeIs v_shapeRows v_shapeColumns v_row v_column v_below v_face v_worn v_lastBend v_tape v_text v_names v_bends v_high v_to v_pileSize v_planLine v_planWay v_way1 v_bestWay v_order1 v_placeIn v_bodyKind v_trace v_shelf v_many v_items v_carried) → va_S A s.heap H locs → lv_has ls 4 [(0, .ref (a 0)), (1, .int x1)] → W p l e (mm_rr d) s m args below meth c H locs 0 0 (mm_Z below D A (wd_X9 cI cL cS cH a v_keptMany v_done v_rowsOf v_columnsOf v_folded v_wronged v_tapeMany v_textMany v_base w_at v_ends w_fault w_opened v_bentMany v_bentWrong v_moreWorn v_planned v_allWrong v_allWorn v_z v_wishedField v_isFound v_bestWrong v_bestWorn v_bestMany v_soughtBy v_sought v_soughtAt v_foundMany v_foundOrder v_isKept v_imageRows v_imageColumns v_imageFolded v_imageWronged v_bodies v_ran v_ownKind v_ownNumber v_limit v_changeWas v_changeIs v_shapeRows v_shapeColumns v_row v_column v_below v_face v_worn v_lastBend v_tape v_text v_names v_bends v_high v_to v_pileSize v_planLine v_planWay v_way1 v_bestWay v_order1 v_placeIn v_bodyKind v_trace v_shelf v_many v_items v_carried) (some (.int r)) args s) (F0 m 30 ls []) := by
  obtain ⟨hx, hb, hml, hown, hts, hr, hlocks, hK, hSt⟩ := id C0
  intro x1 v_base v_at v_ends v_fault v_opened v_tape v_text v_names H locs ls hf hP hD hS hl
  unfold fX9_sums_30 at hf
  refine lv_aload_n hx hb dX9_sums_30 rfl (lv_at hl 0 rfl) ?_
  obtain ⟨r_13, hc_14, hf⟩ := mm_bd1s hf
  refine mm_callVF (q0 := 0) (ci := 9) (rest := []) C0 lk_X9_162 (ctX9_byteAt (a := a) (d := d - 1) (by omega) hc_14) (by omega) rfl hl.1 rfl (mm_cat rfl) dX9_sums_31 hP hD hA hS rfl rfl (fun H locs hP hD hS => ?_)
  refine W.eq (g2 := F0 m 34 ls [.int r_13]) rfl ?_
  refine lv_bipush (v := 43) hx hb dX9_sums_34 (by decide) ?_
  refine lv_icmp_ne (tgt := 43) hx hb dX9_sums_36 (by decide) (fun c_15 => ?_) (fun c_15 => ?_)
  · have hf := mm_in hf c_15
    refine lv_iconst (v := 0) hx hb dX9_sums_43 (by decide) ?_
    exact tX9_sums_44 hgo hE hd C0 hA N hk_5 _ _ _ _ _ _ _ _ _ _ H locs ls hf hP hD hS (lv_sub hl [0, 1] rfl)
  · have hf := mm_ip hf c_15
    refine lv_iconst (v := 1) hx hb dX9_sums_39 (by decide) ?_
    refine lv_goto (tgt := 44) hx hb dX9_sums_40 (by decide) ?_
    exact tX9_sums_44 hgo hE hd C0 hA N hk_5 _ _ _ _ _ _ _ _ _ _ H locs ls hf hP hD hS (lv_sub hl [0, 1] rfl)

def fX9_sums_5 (N : Nat) (go : Int32 → Int32 → Int32 → Int32 → Int32 → List Int32 → List Int32 → List Int32 → Option (Int32 × Int32 × Int32 × Int32))  : Nat → Int32 → Int32 → Int32 → Int32 → Int32 → Int32 → List Int32 → List Int32 → List Int32 → Option (Int32 × Int32 × Int32 × Int32)
  | 0 => fun _ _ _ _ _ _ _ _ _ => none
  | n + 1 => fun x1 v_base v_at v_ends v_fault v_opened v_tape v_text v_names =>
    if 0 ≤ v_fault then
    (some (x1, v_at, v_fault, v_opened))
    else (mm_bd1 (fX9_byteAt N v_base v_at v_ends v_tape v_text) (fun (r_7 : Int32) =>
    if r_7 = (43 : Int32) then
    (fX9_sums_30 N go (fX9_sums_5 N go n) x1 v_base v_at v_ends v_fault v_opened v_tape v_text v_names)
    else (mm_bd1 (fX9_byteAt N v_base v_at v_ends v_tape v_text) (fun (r_10 : Int32) =>
    if r_10 = (45 : Int32) then
    (fX9_sums_30 N go (fX9_sums_5 N go n) x1 v_base v_at v_ends v_fault v_opened v_tape v_text v_names)
    else (some (x1, v_at, v_fault, v_opened))))))

set_option maxHeartbeats 4000000 in
set_option maxRecDepth 100000 in
theorem tX9_sums_5 {p : Program} {l : Launch} {e : Env} {s : State} {m : MethodId} {args : Array Value} {below : List Frame} {meth : Method} {c : Code} {D : va_G} {cI cL cS cH : ClassId} {A : Nat → Prop} {d : Nat} {a : Nat → Nat} {go : Int32 → Int32 → Int32 → Int32 → Int32 → List Int32 → List Int32 → List Int32 → Option (Int32 × Int32 × Int32 × Int32)} {dgo : Nat} (hgo : ∀ (a : Nat → Nat) (v_keptMany : Int32) (v_done : Int32) (v_rowsOf : Int32) (v_columnsOf : Int32) (v_folded : Int32) (v_wronged : Int32) (v_tapeMany : Int32) (v_textMany : Int32) (v_base : Int32) (v_at : Int32) (v_ends : Int32) (v_fault : Int32) (v_opened : Int32) (v_bentMany : Int32) (v_bentWrong : Int32) (v_moreWorn : Int32) (v_planned : Int32) (v_allWrong : Int32) (v_allWorn : Int32) (v_z : Int32) (v_wishedField : Int32) (v_isFound : Bool) (v_bestWrong : Int32) (v_bestWorn : Int32) (v_bestMany : Int32) (v_soughtBy : Int32) (v_sought : Int32) (v_soughtAt : Int32) (v_foundMany : Int32) (v_foundOrder : Int32) (v_isKept : Bool) (v_imageRows : Int32) (v_imageColumns : Int32) (v_imageFolded : Int32) (v_imageWronged : Int32) (v_bodies : Int32) (v_ran : Int32) (v_ownKind : Int32) (v_ownNumber : Int32) (v_limit : List Int32) (v_changeWas : List Int32) (v_changeIs : List Int32) (v_shapeRows : List Int32) (v_shapeColumns : List Int32) (v_row : List Int32) (v_column : List Int32) (v_below : List Int32) (v_face : List Int32) (v_worn : List Int32) (v_lastBend : List Int32) (v_tape : List Int32) (v_text : List Int32) (v_names : List Int32) (v_bends : List Int32) (v_high : List Int32) (v_to : List Int32) (v_pileSize : List Int32) (v_planLine : List Int32) (v_planWay : List Int32) (v_way1 : List Int32) (v_bestWay : List Int32) (v_order1 : List Int32) (v_placeIn : List Int32) (v_bodyKind : List Int32) (v_trace : List Int32) (v_shelf : List Int32) (v_many : List Int32) (v_items : List Int64) (v_carried : List Int64) (r : Int32) (w_at : Int32) (w_fault : Int32) (w_opened : Int32), go v_base v_at v_ends v_fault v_opened v_tape v_text v_names = some (r, w_at, w_fault, w_opened) → mm_Ct l yX9_one cX9_one 5 (some .int) dgo D (mm_T cI cL cS cH) [.ref (a 0)] (wd_X9 cI cL cS cH a v_keptMany v_done v_rowsOf v_columnsOf v_folded v_wronged v_tapeMany v_textMany v_base v_at v_ends v_fault v_opened v_bentMany v_bentWrong v_moreWorn v_planned v_allWrong v_allWorn v_z v_wishedField v_isFound v_bestWrong v_bestWorn v_bestMany v_soughtBy v_sought v_soughtAt v_foundMany v_foundOrder v_isKept v_imageRows v_imageColumns v_imageFolded v_imageWronged v_bodies v_ran v_ownKind v_ownNumber v_limit v_changeWas v_changeIs v_shapeRows v_shapeColumns v_row v_column v_below v_face v_worn v_lastBend v_tape v_text v_names v_bends v_high v_to v_pileSize v_planLine v_planWay v_way1 v_bestWay v_order1 v_placeIn v_bodyKind v_trace v_shelf v_many v_items v_carried) (wd_X9 cI cL cS cH a v_keptMany v_done v_rowsOf v_columnsOf v_folded v_wronged v_tapeMany v_textMany v_base w_at v_ends w_fault w_opened v_bentMany v_bentWrong v_moreWorn v_planned v_allWrong v_allWorn v_z v_wishedField v_isFound v_bestWrong v_bestWorn v_bestMany v_soughtBy v_sought v_soughtAt v_foundMany v_foundOrder v_isKept v_imageRows v_imageColumns v_imageFolded v_imageWronged v_bodies v_ran v_ownKind v_ownNumber v_limit v_changeWas v_changeIs v_shapeRows v_shapeColumns v_row v_column v_below v_face v_worn v_lastBend v_tape v_text v_names v_bends v_high v_to v_pileSize v_planLine v_planWay v_way1 v_bestWay v_order1 v_placeIn v_bodyKind v_trace v_shelf v_many v_items v_carried) (some (.int r))) (hE : 2 ≤ dgo) (hd : dgo + 2 ≤ d) (C0 : mm_Cx p s m args meth c RX9 cX9_sums 4 (some .int) D (mm_T cI cL cS cH) A) (hA : ∀ q, s.heap.size ≤ q → A q) {v_keptMany : Int32} {v_done : Int32} {v_rowsOf : Int32} {v_columnsOf : Int32} {v_folded : Int32} {v_wronged : Int32} {v_tapeMany : Int32} {v_textMany : Int32} {v_bentMany : Int32} {v_bentWrong : Int32} {v_moreWorn : Int32} {v_planned : Int32} {v_allWrong : Int32} {v_allWorn : Int32} {v_z : Int32} {v_wishedField : Int32} {v_isFound : Bool} {v_bestWrong : Int32} {v_bestWorn : Int32} {v_bestMany : Int32} {v_soughtBy : Int32} {v_sought : Int32} {v_soughtAt : Int32} {v_foundMany : Int32} {v_foundOrder : Int32} {v_isKept : Bool} {v_imageRows : Int32} {v_imageColumns : Int32} {v_imageFolded : Int32} {v_imageWronged : Int32} {v_bodies : Int32} {v_ran : Int32} {v_ownKind : Int32} {v_ownNumber : Int32} {v_limit : List Int32} {v_changeWas : List Int32} {v_changeIs : List Int32} {v_shapeRows : List Int32} {v_shapeColumns : List Int32} {v_row : List Int32} {v_column : List Int32} {v_below : List Int32} {v_face : List Int32} {v_worn : List Int32} {v_lastBend : List Int32} {v_bends : List Int32} {v_high : List Int32} {v_to : List Int32} {v_pileSize : List Int32} {v_planLine : List Int32} {v_planWay : List Int32} {v_way1 : List Int32} {v_bestWay : List Int32} {v_order1 : List Int32} {v_placeIn : List Int32} {v_bodyKind : List Int32} {v_trace : List Int32} {v_shelf : List Int32} {v_many : List Int32} {v_items : List Int64} {v_carried : List Int64} {r : Int32} {w_at : Int32} {w_fault : Int32} {w_opened : Int32} (N : Nat)  : ∀ (n : Nat), ∀ (x1 : Int32) (v_base : Int32) (v_at : Int32) (v_ends : Int32) (v_fault : Int32) (v_opened : Int32) (v_tape : List Int32) (v_text : List Int32) (v_names : List Int32) (H : Heap) (locs : List Loc) (ls : Array Slot), fX9_sums_5 N go n x1 v_base v_at v_ends v_fault v_opened v_tape v_text v_names = some (r, w_at, w_fault, w_opened) → va_P D mm_cl (wd_X9 cI cL cS cH a v_keptMany v_done v_rowsOf v_columnsOf v_folded v_wronged v_tapeMany v_textMany v_base v_at v_ends v_fault v_opened v_bentMany v_bentWrong v_moreWorn v_planned v_allWrong v_allWorn v_z v_wishedField v_isFound v_bestWrong v_bestWorn v_bestMany v_soughtBy v_sought v_soughtAt v_foundMany v_foundOrder v_isKept v_imageRows v_imageColumns v_imageFolded v_imageWronged v_bodies v_ran v_ownKind v_ownNumber v_limit v_changeWas v_changeIs v_shapeRows v_shapeColumns v_row v_column v_below v_face v_worn v_lastBend v_tape v_text v_names v_bends v_high v_to v_pileSize v_planLine v_planWay v_way1 v_bestWay v_order1 v_placeIn v_bodyKind v_trace v_shelf v_many v_items v_carried) H → va_D A (wd_X9 cI cL cS cH a v_keptMany v_done v_rowsOf v_columnsOf v_folded v_wronged v_tapeMany v_textMany v_base v_at v_ends v_fault v_opened v_bentMany v_bentWrong v_moreWorn v_planned v_allWrong v_allWorn v_z v_wishedField v_isFound v_bestWrong v_bestWorn v_bestMany v_soughtBy v_sought v_soughtAt v_foundMany v_foundOrder v_isKept v_imageRows v_imageColumns v_imageFolded v_imageWronged v_bodies v_ran v_ownKind v_ownNumber v_limit v_changeWas v_changeIs v_shapeRows v_shapeColumns v_row v_column v_below v_face v_worn v_lastBend v_tape v_text v_names v_bends v_high v_to v_pileSize v_planLine v_planWay v_way1 v_bestWay v_order1 v_placeIn v_bodyKind v_trace v_shelf v_many v_items v_carried) → va_S A s.heap H locs → lv_has ls 4 [(0, .ref (a 0)), (1, .int x1)] → W p l e (mm_rr d) s m args below meth c H locs 0 0 (mm_Z below D A (wd_X9 cI cL cS cH a v_keptMany v_done v_rowsOf v_columnsOf v_folded v_wronged v_tapeMany v_textMany v_base w_at v_ends w_fault w_opened v_bentMany v_bentWrong v_moreWorn v_planned v_allWrong v_allWorn v_z v_wishedField v_isFound v_bestWrong v_bestWorn v_bestMany v_soughtBy v_sought v_soughtAt v_foundMany v_foundOrder v_isKept v_imageRows v_imageColumns v_imageFolded v_imageWronged v_bodies v_ran v_ownKind v_ownNumber v_limit v_changeWas v_changeIs v_shapeRows v_shapeColumns v_row v_column v_below v_face v_worn v_lastBend v_tape v_text v_names v_bends v_high v_to v_pileSize v_planLine v_planWay v_way1 v_bestWay v_order1 v_placeIn v_bodyKind v_trace v_shelf v_many v_items v_carried) (some (.int r)) args s) (F0 m 5 ls []) := by
  obtain ⟨hx, hb, hml, hown, hts, hr, hlocks, hK, hSt⟩ := id C0
  intro n
  induction n with
  | zero =>
    intro x1 v_base v_at v_ends v_fault v_opened v_tape v_text v_names H locs ls hf
    cases (show none = some _ from hf)
  | succ n ih =>
    intro x1 v_base v_at v_ends v_fault v_opened v_tape v_text v_names H locs ls hf hP hD hS hl
    unfold fX9_sums_5 at hf
    refine lv_aload_n hx hb dX9_sums_5 rfl (lv_at hl 0 rfl) ?_
    refine mm_get C0 hP iw_X9 0 rfl rfl 24 (by decide) fl_X9_159 rfl dX9_sums_6 ?_
    refine lv_if_ge (tgt := 77) hx hb dX9_sums_9 (by decide) (fun c_6 => ?_) (fun c_6 => ?_)
    · have hf := mm_ip hf c_6
      refine lv_iload_n hx hb dX9_sums_77 rfl (lv_at hl 1 rfl) ?_
      apply mm_sub4 hf
      exact mm_iret C0 hP hD hS dX9_sums_78
    · have hf := mm_in hf c_6
      refine lv_aload_n hx hb dX9_sums_12 rfl (lv_at hl 0 rfl) ?_
      obtain ⟨r_7, hc_8, hf⟩ := mm_bd1s hf
      refine mm_callVF (q0 := 0) (ci := 9) (rest := []) C0 lk_X9_162 (ctX9_byteAt (a := a) (d := d - 1) (by omega) hc_8) (by omega) rfl hl.1 rfl (mm_cat rfl) dX9_sums_13 hP hD hA hS rfl rfl (fun H locs hP hD hS => ?_)
      refine W.eq (g2 := F0 m 16 ls [.int r_7]) rfl ?_
      refine lv_bipush (v := 43) hx hb dX9_sums_16 (by decide) ?_
      refine lv_icmp_eq (tgt := 30) hx hb dX9_sums_18 (by decide) (fun c_9 => ?_) (fun c_9 => ?_)
      · have hf := mm_ip hf c_9
        exact tX9_sums_30 hgo hE hd C0 hA N ih _ _ _ _ _ _ _ _ _ H locs ls hf hP hD hS (lv_sub hl [0, 1] rfl)
      · have hf := mm_in hf c_9
        refine lv_aload_n hx hb dX9_sums_21 rfl (lv_at hl 0 rfl) ?_
        obtain ⟨r_10, hc_11, hf⟩ := mm_bd1s hf
        refine mm_callVF (q0 := 0) (ci := 9) (rest := []) C0 lk_X9_162 (ctX9_byteAt (a := a) (d := d - 1) (by omega) hc_11) (by omega) rfl hl.1 rfl (mm_cat rfl) dX9_sums_22 hP hD hA hS rfl rfl (fun H locs hP hD hS => ?_)
        refine W.eq (g2 := F0 m 25 ls [.int r_10]) rfl ?_
        refine lv_bipush (v := 45) hx hb dX9_sums_25 (by decide) ?_
        refine lv_icmp_ne (tgt := 77) hx hb dX9_sums_27 (by decide) (fun c_12 => ?_) (fun c_12 => ?_)
        · have hf := mm_in hf c_12
          refine lv_iload_n hx hb dX9_sums_77 rfl (lv_at hl 1 rfl) ?_
          apply mm_sub4 hf
          exact mm_iret C0 hP hD hS dX9_sums_78
        · have hf := mm_ip hf c_12
          exact tX9_sums_30 hgo hE hd C0 hA N ih _ _ _ _ _ _ _ _ _ H locs ls hf hP hD hS (lv_sub hl [0, 1] rfl)

def fX9_sums (N : Nat) (go : Int32 → Int32 → Int32 → Int32 → Int32 → List Int32 → List Int32 → List Int32 → Option (Int32 × Int32 × Int32 × Int32)) (v_base : Int32) (v_at : Int32) (v_ends : Int32) (v_fault : Int32) (v_opened : Int32) (v_tape : List Int32) (v_text : List Int32) (v_names : List Int32) : Option (Int32 × Int32 × Int32 × Int32) :=
    mm_bd4 (fX9_product N go v_base v_at v_ends v_fault v_opened v_tape v_text v_names) (fun (r_1 : Int32) (w_2 : Int32) (w_3 : Int32) (w_4 : Int32) =>
    fX9_sums_5 N go N r_1 v_base w_2 v_ends w_3 w_4 v_tape v_text v_names)

set_option maxHeartbeats 4000000 in
set_option maxRecDepth 100000 in
theorem ctX9_sums {l : Launch} {D : va_G} {cI cL cS cH : ClassId} {a : Nat → Nat}  {v_keptMany : Int32} {v_done : Int32} {v_rowsOf : Int32} {v_columnsOf : Int32} {v_folded : Int32} {v_wronged : Int32} {v_tapeMany : Int32} {v_textMany : Int32} {v_base : Int32} {v_at : Int32} {v_ends : Int32} {v_fault : Int32} {v_opened : Int32} {v_bentMany : Int32} {v_bentWrong : Int32} {v_moreWorn : Int32} {v_planned : Int32} {v_allWrong : Int32} {v_allWorn : Int32} {v_z : Int32} {v_wishedField : Int32} {v_isFound : Bool} {v_bestWrong : Int32} {v_bestWorn : Int32} {v_bestMany : Int32} {v_soughtBy : Int32} {v_sought : Int32} {v_soughtAt : Int32} {v_foundMany : Int32} {v_foundOrder : Int32} {v_isKept : Bool} {v_imageRows : Int32} {v_imageColumns : Int32} {v_imageFolded : Int32} {v_imageWronged : Int32} {v_bodies : Int32} {v_ran : Int32} {v_ownKind : Int32} {v_ownNumber : Int32} {v_limit : List Int32} {v_changeWas : List Int32} {v_changeIs : List Int32} {v_shapeRows : List Int32} {v_shapeColumns : List Int32} {v_row : List Int32} {v_column : List Int32} {v_below : List Int32} {v_face : List Int32} {v_worn : List Int32} {v_lastBend : List Int32} {v_tape : List Int32} {v_text : List Int32} {v_names : List Int32} {v_bends : List Int32} {v_high : List Int32} {v_to : List Int32} {v_pileSize : List Int32} {v_planLine : List Int32} {v_planWay : List Int32} {v_way1 : List Int32} {v_bestWay : List Int32} {v_order1 : List Int32} {v_placeIn : List Int32} {v_bodyKind : List Int32} {v_trace : List Int32} {v_shelf : List Int32} {v_many : List Int32} {v_items : List Int64} {v_carried : List Int64} {r : Int32} {w_at : Int32} {w_fault : Int32} {w_opened : Int32} {N d : Nat} {go : Int32 → Int32 → Int32 → Int32 → Int32 → List Int32 → List Int32 → List Int32 → Option (Int32 × Int32 × Int32 × Int32)} {dgo : Nat} (hgo : ∀ (a : Nat → Nat) (v_keptMany : Int32) (v_done : Int32) (v_rowsOf : Int32) (v_columnsOf : Int32) (v_folded : Int32) (v_wronged : Int32) (v_tapeMany : Int32) (v_textMany : Int32) (v_base : Int32) (v_at : Int32) (v_ends : Int32) (v_fault : Int32) (v_opened : Int32) (v_bentMany : Int32) (v_bentWrong : Int32) (v_moreWorn : Int32) (v_planned : Int32) (v_allWrong : Int32) (v_allWorn : Int32) (v_z : Int32) (v_wishedField : Int32) (v_isFound : Bool) (v_bestWrong : Int32) (v_bestWorn : Int32) (v_bestMany : Int32) (v_soughtBy : Int32) (v_sought : Int32) (v_soughtAt : Int32) (v_foundMany : Int32) (v_foundOrder : Int32) (v_isKept : Bool) (v_imageRows : Int32) (v_imageColumns : Int32) (v_imageFolded : Int32) (v_imageWronged : Int32) (v_bodies : Int32) (v_ran : Int32) (v_ownKind : Int32) (v_ownNumber : Int32) (v_limit : List Int32) (v_changeWas : List Int32) (v_changeIs : List Int32) (v_shapeRows : List Int32) (v_shapeColumns : List Int32) (v_row : List Int32) (v_column : List Int32) (v_below : List Int32) (v_face : List Int32) (v_worn : List Int32) (v_lastBend : List Int32) (v_tape : List Int32) (v_text : List Int32) (v_names : List Int32) (v_bends : List Int32) (v_high : List Int32) (v_to : List Int32) (v_pileSize : List Int32) (v_planLine : List Int32) (v_planWay : List Int32) (v_way1 : List Int32) (v_bestWay : List Int32) (v_order1 : List Int32) (v_placeIn : List Int32) (v_bodyKind : List Int32) (v_trace : List Int32) (v_shelf : List Int32) (v_many : List Int32) (v_items : List Int64) (v_carried : List Int64) (r : Int32) (w_at : Int32) (w_fault : Int32) (w_opened : Int32), go v_base v_at v_ends v_fault v_opened v_tape v_text v_names = some (r, w_at, w_fault, w_opened) → mm_Ct l yX9_one cX9_one 5 (some .int) dgo D (mm_T cI cL cS cH) [.ref (a 0)] (wd_X9 cI cL cS cH a v_keptMany v_done v_rowsOf v_columnsOf v_folded v_wronged v_tapeMany v_textMany v_base v_at v_ends v_fault v_opened v_bentMany v_bentWrong v_moreWorn v_planned v_allWrong v_allWorn v_z v_wishedField v_isFound v_bestWrong v_bestWorn v_bestMany v_soughtBy v_sought v_soughtAt v_foundMany v_foundOrder v_isKept v_imageRows v_imageColumns v_imageFolded v_imageWronged v_bodies v_ran v_ownKind v_ownNumber v_limit v_changeWas v_changeIs v_shapeRows v_shapeColumns v_row v_column v_below v_face v_worn v_lastBend v_tape v_text v_names v_bends v_high v_to v_pileSize v_planLine v_planWay v_way1 v_bestWay v_order1 v_placeIn v_bodyKind v_trace v_shelf v_many v_items v_carried) (wd_X9 cI cL cS cH a v_keptMany v_done v_rowsOf v_columnsOf v_folded v_wronged v_tapeMany v_textMany v_base w_at v_ends w_fault w_opened v_bentMany v_bentWrong v_moreWorn v_planned v_allWrong v_allWorn v_z v_wishedField v_isFound v_bestWrong v_bestWorn v_bestMany v_soughtBy v_sought v_soughtAt v_foundMany v_foundOrder v_isKept v_imageRows v_imageColumns v_imageFolded v_imageWronged v_bodies v_ran v_ownKind v_ownNumber v_limit v_changeWas v_changeIs v_shapeRows v_shapeColumns v_row v_column v_below v_face v_worn v_lastBend v_tape v_text v_names v_bends v_high v_to v_pileSize v_planLine v_planWay v_way1 v_bestWay v_order1 v_placeIn v_bodyKind v_trace v_shelf v_many v_items v_carried) (some (.int r))) (hE : 2 ≤ dgo) (hd : dgo + 2 ≤ d) (hf : fX9_sums N go v_base v_at v_ends v_fault v_opened v_tape v_text v_names = some (r, w_at, w_fault, w_opened)) : mm_Ct l yX9_sums cX9_sums 4 (some .int) d D (mm_T cI cL cS cH) [.ref (a 0)] (wd_X9 cI cL cS cH a v_keptMany v_done v_rowsOf v_columnsOf v_folded v_wronged v_tapeMany v_textMany v_base v_at v_ends v_fault v_opened v_bentMany v_bentWrong v_moreWorn v_planned v_allWrong v_allWorn v_z v_wishedField v_isFound v_bestWrong v_bestWorn v_bestMany v_soughtBy v_sought v_soughtAt v_foundMany v_foundOrder v_isKept v_imageRows v_imageColumns v_imageFolded v_imageWronged v_bodies v_ran v_ownKind v_ownNumber v_limit v_changeWas v_changeIs v_shapeRows v_shapeColumns v_row v_column v_below v_face v_worn v_lastBend v_tape v_text v_names v_bends v_high v_to v_pileSize v_planLine v_planWay v_way1 v_bestWay v_order1 v_placeIn v_bodyKind v_trace v_shelf v_many v_items v_carried) (wd_X9 cI cL cS cH a v_keptMany v_done v_rowsOf v_columnsOf v_folded v_wronged v_tapeMany v_textMany v_base w_at v_ends w_fault w_opened v_bentMany v_bentWrong v_moreWorn v_planned v_allWrong v_allWorn v_z v_wishedField v_isFound v_bestWrong v_bestWorn v_bestMany v_soughtBy v_sought v_soughtAt v_foundMany v_foundOrder v_isKept v_imageRows v_imageColumns v_imageFolded v_imageWronged v_bodies v_ran v_ownKind v_ownNumber v_limit v_changeWas v_changeIs v_shapeRows v_shapeColumns v_row v_column v_below v_face v_worn v_lastBend v_tape v_text v_names v_bends v_high v_to v_pileSize v_planLine v_planWay v_way1 v_bestWay v_order1 v_placeIn v_bodyKind v_trace v_shelf v_many v_items v_carried) (some (.int r)) := by
  refine mm_of (by decide) (Nat.le_of_ble_eq_true rfl) ?_
  intro p e s m args below meth c A H locs ls C0 hP hD hA hS hl
  have C0 : mm_Cx p s m args meth c RX9 cX9_sums 4 (some .int) D (mm_T cI cL cS cH) A := C0
  obtain ⟨hx, hb, hml, hown, hts, hr, hlocks, hK, hSt⟩ := id C0
  have hl : lv_has ls 4 [(0, .ref (a 0))] := hl
  unfold fX9_sums at hf
  refine lv_aload_n hx hb dX9_sums_0 rfl (lv_at hl 0 rfl) ?_
  obtain ⟨r_1, w_2, w_3, w_4, hc_5, hf⟩ := mm_bd4s hf
  refine mm_callVF (q0 := 0) (ci := 9) (rest := []) C0 lk_X9_178 (ctX9_product (a := a) (d := d - 1) hgo hE (by omega) hc_5) (by omega) rfl hl.1 rfl (mm_cat rfl) dX9_sums_1 hP hD hA hS rfl rfl (fun H locs hP hD hS => ?_)
  refine W.eq (g2 := F0 m 4 ls [.int r_1]) rfl ?_
  refine lv_istore_n (lv' := [(1, .int r_1), (0, .ref (a 0))]) hx hb dX9_sums_4 rfl hl (by decide) rfl (fun ls hl => ?_)
  exact tX9_sums_5 hgo hE hd C0 hA N  N _ _ _ _ _ _ _ _ _ H locs ls hf hP hD hS (lv_sub hl [1, 0] rfl)

theorem nb_dX9_compared_0 : bls_w cX9_compared [(0, [42]), (1, [182, 0, 175]), (4, [60]), (5, [42]), (6, [182, 0, 162]), (9, [61]), (10, [42]), (11, [180, 0, 159]), (14, [156, 0, 21]), (17, [28]), (18, [16, 60]), (20, [159, 0, 17])] := bls_of (by decide +kernel)
theorem dX9_compared_0 : decode cX9_compared 0 = .ok (.aload_n 0, 1) := op_42 nb_dX9_compared_0.1
set_option maxRecDepth 100000 in
theorem dX9_compared_1 : decode cX9_compared 1 = .ok (.invokevirtual 175, 3) := (op_182 nb_dX9_compared_0.2.1).trans rfl
theorem dX9_compared_4 : decode cX9_compared 4 = .ok (.istore_n 1, 1) := op_60 nb_dX9_compared_0.2.2.1
theorem dX9_compared_5 : decode cX9_compared 5 = .ok (.aload_n 0, 1) := op_42 nb_dX9_compared_0.2.2.2.1
set_option maxRecDepth 100000 in
theorem dX9_compared_6 : decode cX9_compared 6 = .ok (.invokevirtual 162, 3) := (op_182 nb_dX9_compared_0.2.2.2.2.1).trans rfl
theorem dX9_compared_9 : decode cX9_compared 9 = .ok (.istore_n 2, 1) := op_61 nb_dX9_compared_0.2.2.2.2.2.1
theorem dX9_compared_10 : decode cX9_compared 10 = .ok (.aload_n 0, 1) := op_42 nb_dX9_compared_0.2.2.2.2.2.2.1
set_option maxRecDepth 100000 in
theorem dX9_compared_11 : decode cX9_compared 11 = .ok (.getfield 159, 3) := (op_180 nb_dX9_compared_0.2.2.2.2.2.2.2.1).trans rfl
set_option maxRecDepth 100000 in
theorem dX9_compared_14 : decode cX9_compared 14 = .ok (.ifCond .ge 21, 3) := (op_156 nb_dX9_compared_0.2.2.2.2.2.2.2.2.1).trans rfl
theorem dX9_compared_17 : decode cX9_compared 17 = .ok (.iload_n 2, 1) := op_28 nb_dX9_compared_0.2.2.2.2.2.2.2.2.2.1
set_option maxRecDepth 100000 in
theorem dX9_compared_18 : decode cX9_compared 18 = .ok (.bipush 60, 2) := (op_16 nb_dX9_compared_0.2.2.2.2.2.2.2.2.2.2.1).trans rfl
set_option maxRecDepth 100000 in
theorem dX9_compared_20 : decode cX9_compared 20 = .ok (.if_icmp .eq 17, 3) := (op_159 nb_dX9_compared_0.2.2.2.2.2.2.2.2.2.2.2.1).trans rfl
theorem nb_dX9_compared_23 : bls_w cX9_compared [(23, [28]), (24, [16, 61]), (26, [159, 0, 11]), (29, [28]), (30, [16, 62]), (32, [159, 0, 5]), (35, [27]), (36, [172]), (37, [42]), (38, [89]), (39, [180, 0, 150]), (42, [4])] := bls_of (by decide +kernel)
theorem dX9_compared_23 : decode cX9_compared 23 = .ok (.iload_n 2, 1) := op_28 nb_dX9_compared_23.1
set_option maxRecDepth 100000 in
theorem dX9_compared_24 : decode cX9_compared 24 = .ok (.bipush 61, 2) := (op_16 nb_dX9_compared_23.2.1).trans rfl
set_option maxRecDepth 100000 in
theorem dX9_compared_26 : decode cX9_compared 26 = .ok (.if_icmp .eq 11, 3) := (op_159 nb_dX9_compared_23.2.2.1).trans rfl
theorem dX9_compared_29 : decode cX9_compared 29 = .ok (.iload_n 2, 1) := op_28 nb_dX9_compared_23.2.2.2.1
set_option maxRecDepth 100000 in
theorem dX9_compared_30 : decode cX9_compared 30 = .ok (.bipush 62, 2) := (op_16 nb_dX9_compared_23.2.2.2.2.1).trans rfl
set_option maxRecDepth 100000 in
theorem dX9_compared_32 : decode cX9_compared 32 = .ok (.if_icmp .eq 5, 3) := (op_159 nb_dX9_compared_23.2.2.2.2.2.1).trans rfl
theorem dX9_compared_35 : decode cX9_compared 35 = .ok (.iload_n 1, 1) := op_27 nb_dX9_compared_23.2.2.2.2.2.2.1
theorem dX9_compared_36 : decode cX9_compared 36 = .ok (.ireturn, 1) := op_172 nb_dX9_compared_23.2.2.2.2.2.2.2.1
theorem dX9_compared_37 : decode cX9_compared 37 = .ok (.aload_n 0, 1) := op_42 nb_dX9_compared_23.2.2.2.2.2.2.2.2.1
theorem dX9_compared_38 : decode cX9_compared 38 = .ok (.dup, 1) := op_89 nb_dX9_compared_23.2.2.2.2.2.2.2.2.2.1
set_option maxRecDepth 100000 in
theorem dX9_compared_39 : decode cX9_compared 39 = .ok (.getfield 150, 3) := (op_180 nb_dX9_compared_23.2.2.2.2.2.2.2.2.2.2.1).trans rfl
theorem dX9_compared_42 : decode cX9_compared 42 = .ok (.iconst 1, 1) := op_4 nb_dX9_compared_23.2.2.2.2.2.2.2.2.2.2.2.1
theorem nb_dX9_compared_43 : bls_w cX9_compared [(43, [96]), (44, [181, 0, 150]), (47, [42]), (48, [182, 0, 175]), (51, [62]), (52, [28]), (53, [16, 60]), (55, [160, 0, 11]), (58, [27]), (59, [29]), (60, [162, 0, 29]), (63, [167, 0, 22])] := bls_of (by decide +kernel)
theorem dX9_compared_43 : decode cX9_compared 43 = .ok (.iadd, 1) := op_96 nb_dX9_compared_43.1
set_option maxRecDepth 100000 in
theorem dX9_compared_44 : decode cX9_compared 44 = .ok (.putfield 150, 3) := (op_181 nb_dX9_compared_43.2.1).trans rfl
theorem dX9_compared_47 : decode cX9_compared 47 = .ok (.aload_n 0, 1) := op_42 nb_dX9_compared_43.2.2.1
set_option maxRecDepth 100000 in
theorem dX9_compared_48 : decode cX9_compared 48 = .ok (.invokevirtual 175, 3) := (op_182 nb_dX9_compared_43.2.2.2.1).trans rfl
theorem dX9_compared_51 : decode cX9_compared 51 = .ok (.istore_n 3, 1) := op_62 nb_dX9_compared_43.2.2.2.2.1
theorem dX9_compared_52 : decode cX9_compared 52 = .ok (.iload_n 2, 1) := op_28 nb_dX9_compared_43.2.2.2.2.2.1
set_option maxRecDepth 100000 in
theorem dX9_compared_53 : decode cX9_compared 53 = .ok (.bipush 60, 2) := (op_16 nb_dX9_compared_43.2.2.2.2.2.2.1).trans rfl
set_option maxRecDepth 100000 in
theorem dX9_compared_55 : decode cX9_compared 55 = .ok (.if_icmp .ne 11, 3) := (op_160 nb_dX9_compared_43.2.2.2.2.2.2.2.1).trans rfl
theorem dX9_compared_58 : decode cX9_compared 58 = .ok (.iload_n 1, 1) := op_27 nb_dX9_compared_43.2.2.2.2.2.2.2.2.1
theorem dX9_compared_59 : decode cX9_compared 59 = .ok (.iload_n 3, 1) := op_29 nb_dX9_compared_43.2.2.2.2.2.2.2.2.2.1
set_option maxRecDepth 100000 in
theorem dX9_compared_60 : decode cX9_compared 60 = .ok (.if_icmp .ge 29, 3) := (op_162 nb_dX9_compared_43.2.2.2.2.2.2.2.2.2.2.1).trans rfl
set_option maxRecDepth 100000 in
theorem dX9_compared_63 : decode cX9_compared 63 = .ok (.goto 22, 3) := (op_167 nb_dX9_compared_43.2.2.2.2.2.2.2.2.2.2.2.1).trans rfl
theorem nb_dX9_compared_66 : bls_w cX9_compared [(66, [28]), (67, [16, 61]), (69, [160, 0, 11]), (72, [27]), (73, [29]), (74, [160, 0, 15]), (77, [167, 0, 8]), (80, [27]), (81, [29]), (82, [164, 0, 7]), (85, [4]), (86, [167, 0, 4])] := bls_of (by decide +kernel)
theorem dX9_compared_66 : decode cX9_compared 66 = .ok (.iload_n 2, 1) := op_28 nb_dX9_compared_66.1
set_option maxRecDepth 100000 in
theorem dX9_compared_67 : decode cX9_compared 67 = .ok (.bipush 61, 2) := (op_16 nb_dX9_compared_66.2.1).trans rfl
set_option maxRecDepth 100000 in
theorem dX9_compared_69 : decode cX9_compared 69 = .ok (.if_icmp .ne 11, 3) := (op_160 nb_dX9_compared_66.2.2.1).trans rfl
theorem dX9_compared_72 : decode cX9_compared 72 = .ok (.iload_n 1, 1) := op_27 nb_dX9_compared_66.2.2.2.1
theorem dX9_compared_73 : decode cX9_compared 73 = .ok (.iload_n 3, 1) := op_29 nb_dX9_compared_66.2.2.2.2.1
set_option maxRecDepth 100000 in
theorem dX9_compared_74 : decode cX9_compared 74 = .ok (.if_icmp .ne 15, 3) := (op_160 nb_dX9_compared_66.2.2.2.2.2.1).trans rfl
set_option maxRecDepth 100000 in
theorem dX9_compared_77 : decode cX9_compared 77 = .ok (.goto 8, 3) := (op_167 nb_dX9_compared_66.2.2.2.2.2.2.1).trans rfl
theorem dX9_compared_80 : decode cX9_compared 80 = .ok (.iload_n 1, 1) := op_27 nb_dX9_compared_66.2.2.2.2.2.2.2.1
theorem dX9_compared_81 : decode cX9_compared 81 = .ok (.iload_n 3, 1) := op_29 nb_dX9_compared_66.2.2.2.2.2.2.2.2.1
set_option maxRecDepth 100000 in
theorem dX9_compared_82 : decode cX9_compared 82 = .ok (.if_icmp .le 7, 3) := (op_164 nb_dX9_compared_66.2.2.2.2.2.2.2.2.2.1).trans rfl
theorem dX9_compared_85 : decode cX9_compared 85 = .ok (.iconst 1, 1) := op_4 nb_dX9_compared_66.2.2.2.2.2.2.2.2.2.2.1
set_option maxRecDepth 100000 in
theorem dX9_compared_86 : decode cX9_compared 86 = .ok (.goto 4, 3) := (op_167 nb_dX9_compared_66.2.2.2.2.2.2.2.2.2.2.2.1).trans rfl
theorem nb_dX9_compared_89 : bls_w cX9_compared [(89, [3]), (90, [172])] := bls_of (by decide +kernel)
theorem dX9_compared_89 : decode cX9_compared 89 = .ok (.iconst 0, 1) := op_3 nb_dX9_compared_89.1
theorem dX9_compared_90 : decode cX9_compared 90 = .ok (.ireturn, 1) := op_172 nb_dX9_compared_89.2.1
def fX9_compared_37 (N : Nat) (go : Int32 → Int32 → Int32 → Int32 → Int32 → List Int32 → List Int32 → List Int32 → Option (Int32 × Int32 × Int32 × Int32))  (x1 : Int32) (x2 : Int32) (v_base : Int32) (v_at : Int32) (v_ends : Int32) (v_fault : Int32) (v_opened : Int32) (v_tape : List Int32) (v_text : List Int32) (v_names : List Int32) : Option (Int32 × Int32 × Int32 × Int32) :=
    mm_nm ((v_at + (1 : Int32))) (fun (y_12 : Int32) =>
    mm_bd4 (fX9_sums N go v_base y_12 v_ends v_fault v_opened v_tape v_text v_names) (fun (r_13 : Int32) (w_14 : Int32) (w_15 : Int32) (w_16 : Int32) =>
    if x2 = (60 : Int32) then
    (if r_13 ≤ x1 then
    (some ((0 : Int32), w_14, w_15, w_16))
    else (some ((1 : Int32), w_14, w_15, w_16)))
    else (if x2 = (61 : Int32) then
    (if x1 = r_13 then
    (some ((1 : Int32), w_14, w_15, w_16))
    else (some ((0 : Int32), w_14, w_15, w_16)))
    else (if x1 ≤ r_13 then
    (some ((0 : Int32), w_14, w_15, w_16))
    else (some ((1 : Int32), w_14, w_15, w_16))))))

set_option maxHeartbeats 4000000 in
set_option maxRecDepth 100000 in
theorem tX9_compared_37 {p : Program} {l : Launch} {e : Env} {s : State} {m : MethodId} {args : Array Value} {below : List Frame} {meth : Method} {c : Code} {D : va_G} {cI cL cS cH : ClassId} {A : Nat → Prop} {d : Nat} {a : Nat → Nat} {go : Int32 → Int32 → Int32 → Int32 → Int32 → List Int32 → List Int32 → List Int32 → Option (Int32 × Int32 × Int32 × Int32)} {dgo : Nat} (hgo : ∀ (a : Nat → Nat) (v_keptMany : Int32) (v_done : Int32) (v_rowsOf : Int32) (v_columnsOf : Int32) (v_folded : Int32) (v_wronged : Int32) (v_tapeMany : Int32) (v_textMany : Int32) (v_base : Int32) (v_at : Int32) (v_ends : Int32) (v_fault : Int32) (v_opened : Int32) (v_bentMany : Int32) (v_bentWrong : Int32) (v_moreWorn : Int32) (v_planned : Int32) (v_allWrong : Int32) (v_allWorn : Int32) (v_z : Int32) (v_wishedField : Int32) (v_isFound : Bool) (v_bestWrong : Int32) (v_bestWorn : Int32) (v_bestMany : Int32) (v_soughtBy : Int32) (v_sought : Int32) (v_soughtAt : Int32) (v_foundMany : Int32) (v_foundOrder : Int32) (v_isKept : Bool) (v_imageRows : Int32) (v_imageColumns : Int32) (v_imageFolded : Int32) (v_imageWronged : Int32) (v_bodies : Int32) (v_ran : Int32) (v_ownKind : Int32) (v_ownNumber : Int32) (v_limit : List Int32) (v_changeWas : List Int32) (v_changeIs : List Int32) (v_shapeRows : List Int32) (v_shapeColumns : List Int32) (v_row : List Int32) (v_column : List Int32) (v_below : List Int32) (v_face : List Int32) (v_worn : List Int32) (v_lastBend : List Int32) (v_tape : List Int32) (v_text : List Int32) (v_names : List Int32) (v_bends : List Int32) (v_high : List Int32) (v_to : List Int32) (v_pileSize : List Int32) (v_planLine : List Int32) (v_planWay : List Int32) (v_way1 : List Int32) (v_bestWay : List Int32) (v_order1 : List Int32) (v_placeIn : List Int32) (v_bodyKind : List Int32) (v_trace : List Int32) (v_shelf : List Int32) (v_many : List Int32) (v_items : List Int64) (v_carried : List Int64) (r : Int32) (w_at : Int32) (w_fault : Int32) (w_opened : Int32), go v_base v_at v_ends v_fault v_opened v_tape v_text v_names = some (r, w_at, w_fault, w_opened) → mm_Ct l yX9_one cX9_one 5 (some .int) dgo D (mm_T cI cL cS cH) [.ref (a 0)] (wd_X9 cI cL cS cH a v_keptMany v_done v_rowsOf v_columnsOf v_folded v_wronged v_tapeMany v_textMany v_base v_at v_ends v_fault v_opened v_bentMany v_bentWrong v_moreWorn v_planned v_allWrong v_allWorn v_z v_wishedField v_isFound v_bestWrong v_bestWorn v_bestMany v_soughtBy v_sought v_soughtAt v_foundMany v_foundOrder v_isKept v_imageRows v_imageColumns v_imageFolded v_imageWronged v_bodies v_ran v_ownKind v_ownNumber v_limit v_changeWas v_changeIs v_shapeRows v_shapeColumns v_row v_column v_below v_face v_worn v_lastBend v_tape v_text v_names v_bends v_high v_to v_pileSize v_planLine v_planWay v_way1 v_bestWay v_order1 v_placeIn v_bodyKind v_trace v_shelf v_many v_items v_carried) (wd_X9 cI cL cS cH a v_keptMany v_done v_rowsOf v_columnsOf v_folded v_wronged v_tapeMany v_textMany v_base w_at v_ends w_fault w_opened v_bentMany v_bentWrong v_moreWorn v_planned v_allWrong v_allWorn v_z v_wishedField v_isFound v_bestWrong v_bestWorn v_bestMany v_soughtBy v_sought v_soughtAt v_foundMany v_foundOrder v_isKept v_imageRows v_imageColumns v_imageFolded v_imageWronged v_bodies v_ran v_ownKind v_ownNumber v_limit v_changeWas v_changeIs v_shapeRows v_shapeColumns v_row v_column v_below v_face v_worn v_lastBend v_tape v_text v_names v_bends v_high v_to v_pileSize v_planLine v_planWay v_way1 v_bestWay v_order1 v_placeIn v_bodyKind v_trace v_shelf v_many v_items v_carried) (some (.int r))) (hE : 2 ≤ dgo) (hd : dgo + 3 ≤ d) (C0 : mm_Cx p s m args meth c RX9 cX9_compared 4 (some .int) D (mm_T cI cL cS cH) A) (hA : ∀ q, s.heap.size ≤ q → A q) {v_keptMany : Int32} {v_done : Int32} {v_rowsOf : Int32} {v_columnsOf : Int32} {v_folded : Int32} {v_wronged : Int32} {v_tapeMany : Int32} {v_textMany : Int32} {v_bentMany : Int32} {v_bentWrong : Int32} {v_moreWorn : Int32} {v_planned : Int32} {v_allWrong : Int32} {v_allWorn : Int32} {v_z : Int32} {v_wishedField : Int32} {v_isFound : Bool} {v_bestWrong : Int32} {v_bestWorn : Int32} {v_bestMany : Int32} {v_soughtBy : Int32} {v_sought : Int32} {v_soughtAt : Int32} {v_foundMany : Int32} {v_foundOrder : Int32} {v_isKept : Bool} {v_imageRows : Int32} {v_imageColumns : Int32} {v_imageFolded : Int32} {v_imageWronged : Int32} {v_bodies : Int32} {v_ran : Int32} {v_ownKind : Int32} {v_ownNumber : Int32} {v_limit : List Int32} {v_changeWas : List Int32} {v_changeIs : List Int32} {v_shapeRows : List Int32} {v_shapeColumns : List Int32} {v_row : List Int32} {v_column : List Int32} {v_below : List Int32} {v_face : List Int32} {v_worn : List Int32} {v_lastBend : List Int32} {v_bends : List Int32} {v_high : List Int32} {v_to : List Int32} {v_pileSize : List Int32} {v_planLine : List Int32} {v_planWay : List Int32} {v_way1 : List Int32} {v_bestWay : List Int32} {v_order1 : List Int32} {v_placeIn : List Int32} {v_bodyKind : List Int32} {v_trace : List Int32} {v_shelf : List Int32} {v_many : List Int32} {v_items : List Int64} {v_carried : List Int64} {r : Int32} {w_at : Int32} {w_fault : Int32} {w_opened : Int32} (N : Nat)  : ∀ (x1 : Int32) (x2 : Int32) (v_base : Int32) (v_at : Int32) (v_ends : Int32) (v_fault : Int32) (v_opened : Int32) (v_tape : List Int32) (v_text : List Int32) (v_names : List Int32) (H : Heap) (locs : List Loc) (ls : Array Slot), fX9_compared_37 N go x1 x2 v_base v_at v_ends v_fault v_opened v_tape v_text v_names = some (r, w_at, w_fault, w_opened) → va_P D mm_cl (wd_X9 cI cL cS cH a v_keptMany v_done v_rowsOf v_columnsOf v_folded v_wronged v_tapeMany v_textMany v_base v_at v_ends v_fault v_opened v_bentMany v_bentWrong v_moreWorn v_planned v_allWrong v_allWorn v_z v_wishedField v_isFound v_bestWrong v_bestWorn v_bestMany v_soughtBy v_sought v_soughtAt v_foundMany v_foundOrder v_isKept v_imageRows v_imageColumns v_imageFolded v_imageWronged v_bodies v_ran v_ownKind v_ownNumber v_limit v_changeWas v_changeIs v_shapeRows v_shapeColumns v_row v_column v_below v_face v_worn v_lastBend v_tape v_text v_names v_bends v_high v_to v_pileSize v_planLine v_planWay v_way1 v_bestWay v_order1 v_placeIn v_bodyKind v_trace v_shelf v_many v_items v_carried) H → va_D A (wd_X9 cI cL cS cH a v_keptMany v_done v_rowsOf v_columnsOf v_folded v_wronged v_tapeMany v_textMany v_base v_at v_ends v_fault v_opened v_bentMany v_bentWrong v_moreWorn v_planned v_allWrong v_allWorn v_z v_wishedField v_isFound v_bestWrong v_bestWorn v_bestMany v_soughtBy v_sought v_soughtAt v_foundMany v_foundOrder v_isKept v_imageRows v_imageColumns v_imageFolded v_imageWronged v_bodies v_ran v_ownKind v_ownNumber v_limit v_changeWas v_changeIs v_shapeRows v_shapeColumns v_row v_column v_below v_face v_worn v_lastBend v_tape v_text v_names v_bends v_high v_to v_pileSize v_planLine v_planWay v_way1 v_bestWay v_order1 v_placeIn v_bodyKind v_trace v_shelf v_many v_items v_carried) → va_S A s.heap H locs → lv_has ls 4 [(0, .ref (a 0)), (1, .int x1), (2, .int x2)] → W p l e (mm_rr d) s m args below meth c H locs 0 0 (mm_Z below D A (wd_X9 cI cL cS cH a v_keptMany v_done v_rowsOf v_columnsOf v_folded v_wronged v_tapeMany v_textMany v_base w_at v_ends w_fault w_opened v_bentMany v_bentWrong v_moreWorn v_planned v_allWrong v_allWorn v_z v_wishedField v_isFound v_bestWrong v_bestWorn v_bestMany v_soughtBy v_sought v_soughtAt v_foundMany v_foundOrder v_isKept v_imageRows v_imageColumns v_imageFolded v_imageWronged v_bodies v_ran v_ownKind v_ownNumber v_limit v_changeWas v_changeIs v_shapeRows v_shapeColumns v_row v_column v_below v_face v_worn v_lastBend v_tape v_text v_names v_bends v_high v_to v_pileSize v_planLine v_planWay v_way1 v_bestWay v_order1 v_placeIn v_bodyKind v_trace v_shelf v_many v_items v_carried) (some (.int r)) args s) (F0 m 37 ls []) := by
  obtain ⟨hx, hb, hml, hown, hts, hr, hlocks, hK, hSt⟩ := id C0
  intro x1 x2 v_base v_at v_ends v_fault v_opened v_tape v_text v_names H locs ls hf hP hD hS hl
  unfold fX9_compared_37 at hf
  refine lv_aload_n hx hb dX9_compared_37 rfl (lv_at hl 0 rfl) ?_
  refine lv_dup hx hb dX9_compared_38 rfl ?_
  refine mm_get C0 hP iw_X9 0 rfl rfl 22 (by decide) fl_X9_150 rfl dX9_compared_39 ?_
  refine lv_iconst (v := 1) hx hb dX9_compared_42 (by decide) ?_
  refine lv_iadd hx hb dX9_compared_43 ?_
  refine lv_topi (fun y_12 ey_12 => ?_)
  have hf := mm_nms hf ey_12
  refine mm_put C0 hP hD hS iw_X9 tyX9 tyX9_ok nmX9 0 rfl rfl 22 (by decide) fl_X9_150 rfl rfl rfl (Nat.le_of_ble_eq_true rfl) dX9_compared_44 (w2 := (wd_X9 cI cL cS cH a v_keptMany v_done v_rowsOf v_columnsOf v_folded v_wronged v_tapeMany v_textMany v_base y_12 v_ends v_fault v_opened v_bentMany v_bentWrong v_moreWorn v_planned v_allWrong v_allWorn v_z v_wishedField v_isFound v_bestWrong v_bestWorn v_bestMany v_soughtBy v_sought v_soughtAt v_foundMany v_foundOrder v_isKept v_imageRows v_imageColumns v_imageFolded v_imageWronged v_bodies v_ran v_ownKind v_ownNumber v_limit v_changeWas v_changeIs v_shapeRows v_shapeColumns v_row v_column v_below v_face v_worn v_lastBend v_tape v_text v_names v_bends v_high v_to v_pileSize v_planLine v_planWay v_way1 v_bestWay v_order1 v_placeIn v_bodyKind v_trace v_shelf v_many v_items v_carried)) rfl (fun H locs hP hD hS => ?_)
  refine lv_aload_n hx hb dX9_compared_47 rfl (lv_at hl 0 rfl) ?_
  obtain ⟨r_13, w_14, w_15, w_16, hc_17, hf⟩ := mm_bd4s hf
  refine mm_callVF (q0 := 0) (ci := 9) (rest := []) C0 lk_X9_175 (ctX9_sums (a := a) (d := d - 1) hgo hE (by omega) hc_17) (by omega) rfl hl.1 rfl (mm_cat rfl) dX9_compared_48 hP hD hA hS rfl rfl (fun H locs hP hD hS => ?_)
  refine W.eq (g2 := F0 m 51 ls [.int r_13]) rfl ?_
  refine lv_istore_n (lv' := [(3, .int r_13), (0, .ref (a 0)), (1, .int x1), (2, .int x2)]) hx hb dX9_compared_51 rfl hl (by decide) rfl (fun ls hl => ?_)
  refine lv_iload_n hx hb dX9_compared_52 rfl (lv_at hl 3 rfl) ?_
  refine lv_bipush (v := 60) hx hb dX9_compared_53 (by decide) ?_
  refine lv_icmp_ne (tgt := 66) hx hb dX9_compared_55 (by decide) (fun c_18 => ?_) (fun c_18 => ?_)
  · have hf := mm_in hf c_18
    refine lv_iload_n hx hb dX9_compared_66 rfl (lv_at hl 3 rfl) ?_
    refine lv_bipush (v := 61) hx hb dX9_compared_67 (by decide) ?_
    refine lv_icmp_ne (tgt := 80) hx hb dX9_compared_69 (by decide) (fun c_19 => ?_) (fun c_19 => ?_)
    · have hf := mm_in hf c_19
      refine lv_iload_n hx hb dX9_compared_80 rfl (lv_at hl 2 rfl) ?_
      refine lv_iload_n hx hb dX9_compared_81 rfl (lv_at hl 0 rfl) ?_
      refine lv_icmp_le (tgt := 89) hx hb dX9_compared_82 (by decide) (fun c_20 => ?_) (fun c_20 => ?_)
      · have hf := mm_ip hf c_20
        refine lv_iconst (v := 0) hx hb dX9_compared_89 (by decide) ?_
        apply mm_sub4 hf
        exact mm_iret C0 hP hD hS dX9_compared_90
      · have hf := mm_in hf c_20
        refine lv_iconst (v := 1) hx hb dX9_compared_85 (by decide) ?_
        refine lv_goto (tgt := 90) hx hb dX9_compared_86 (by decide) ?_
        apply mm_sub4 hf
        exact mm_iret C0 hP hD hS dX9_compared_90
    · have hf := mm_ip hf c_19
      refine lv_iload_n hx hb dX9_compared_72 rfl (lv_at hl 2 rfl) ?_
      refine lv_iload_n hx hb dX9_compared_73 rfl (lv_at hl 0 rfl) ?_
      refine lv_icmp_ne (tgt := 89) hx hb dX9_compared_74 (by decide) (fun c_21 => ?_) (fun c_21 => ?_)
      · have hf := mm_in hf c_21
        refine lv_iconst (v := 0) hx hb dX9_compared_89 (by decide) ?_
        apply mm_sub4 hf
        exact mm_iret C0 hP hD hS dX9_compared_90
      · have hf := mm_ip hf c_21
        refine lv_goto (tgt := 85) hx hb dX9_compared_77 (by decide) ?_
        refine lv_iconst (v := 1) hx hb dX9_compared_85 (by decide) ?_
        refine lv_goto (tgt := 90) hx hb dX9_compared_86 (by decide) ?_
        apply mm_sub4 hf
        exact mm_iret C0 hP hD hS dX9_compared_90
  · have hf := mm_ip hf c_18
    refine lv_iload_n hx hb dX9_compared_58 rfl (lv_at hl 2 rfl) ?_
    refine lv_iload_n hx hb dX9_compared_59 rfl (lv_at hl 0 rfl) ?_
    refine lv_icmp_ge (tgt := 89) hx hb dX9_compared_60 (by decide) (fun c_22 => ?_) (fun c_22 => ?_)
    · have hf := mm_ip hf c_22
      refine lv_iconst (v := 0) hx hb dX9_compared_89 (by decide) ?_
      apply mm_sub4 hf
      exact mm_iret C0 hP hD hS dX9_compared_90
    · have hf := mm_in hf c_22
      refine lv_goto (tgt := 85) hx hb dX9_compared_63 (by decide) ?_
      refine lv_iconst (v := 1) hx hb dX9_compared_85 (by decide) ?_
      refine lv_goto (tgt := 90) hx hb dX9_compared_86 (by decide) ?_
      apply mm_sub4 hf
      exact mm_iret C0 hP hD hS dX9_compared_90

def fX9_compared (N : Nat) (go : Int32 → Int32 → Int32 → Int32 → Int32 → List Int32 → List Int32 → List Int32 → Option (Int32 × Int32 × Int32 × Int32)) (v_base : Int32) (v_at : Int32) (v_ends : Int32) (v_fault : Int32) (v_opened : Int32) (v_tape : List Int32) (v_text : List Int32) (v_names : List Int32) : Option (Int32 × Int32 × Int32 × Int32) :=
    mm_bd4 (fX9_sums N go v_base v_at v_ends v_fault v_opened v_tape v_text v_names) (fun (r_1 : Int32) (w_2 : Int32) (w_3 : Int32) (w_4 : Int32) =>
    mm_bd1 (fX9_byteAt N v_base w_2 v_ends v_tape v_text) (fun (r_6 : Int32) =>
    if 0 ≤ w_3 then
    (some (r_1, w_2, w_3, w_4))
    else (if r_6 = (60 : Int32) then
    (fX9_compared_37 N go r_1 r_6 v_base w_2 v_ends w_3 w_4 v_tape v_text v_names)
    else (if r_6 = (61 : Int32) then
    (fX9_compared_37 N go r_1 r_6 v_base w_2 v_ends w_3 w_4 v_tape v_text v_names)
    else (if r_6 = (62 : Int32) then
    (fX9_compared_37 N go r_1 r_6 v_base w_2 v_ends w_3 w_4 v_tape v_text v_names)
    else (some (r_1, w_2, w_3, w_4)))))))

set_option maxHeartbeats 4000000 in
set_option maxRecDepth 100000 in
theorem ctX9_compared {l : Launch} {D : va_G} {cI cL cS cH : ClassId} {a : Nat → Nat}  {v_keptMany : Int32} {v_done : Int32} {v_rowsOf : Int32} {v_columnsOf : Int32} {v_folded : Int32} {v_wronged : Int32} {v_tapeMany : Int32} {v_textMany : Int32} {v_base : Int32} {v_at : Int32} {v_ends : Int32} {v_fault : Int32} {v_opened : Int32} {v_bentMany : Int32} {v_bentWrong : Int32} {v_moreWorn : Int32} {v_planned : Int32} {v_allWrong : Int32} {v_allWorn : Int32} {v_z : Int32} {v_wishedField : Int32} {v_isFound : Bool} {v_bestWrong : Int32} {v_bestWorn : Int32} {v_bestMany : Int32} {v_soughtBy : Int32} {v_sought : Int32} {v_soughtAt : Int32} {v_foundMany : Int32} {v_foundOrder : Int32} {v_isKept : Bool} {v_imageRows : Int32} {v_imageColumns : Int32} {v_imageFolded : Int32} {v_imageWronged : Int32} {v_bodies : Int32} {v_ran : Int32} {v_ownKind : Int32} {v_ownNumber : Int32} {v_limit : List Int32} {v_changeWas : List Int32} {v_changeIs : List Int32} {v_shapeRows : List Int32} {v_shapeColumns : List Int32} {v_row : List Int32} {v_column : List Int32} {v_below : List Int32} {v_face : List Int32} {v_worn : List Int32} {v_lastBend : List Int32} {v_tape : List Int32} {v_text : List Int32} {v_names : List Int32} {v_bends : List Int32} {v_high : List Int32} {v_to : List Int32} {v_pileSize : List Int32} {v_planLine : List Int32} {v_planWay : List Int32} {v_way1 : List Int32} {v_bestWay : List Int32} {v_order1 : List Int32} {v_placeIn : List Int32} {v_bodyKind : List Int32} {v_trace : List Int32} {v_shelf : List Int32} {v_many : List Int32} {v_items : List Int64} {v_carried : List Int64} {r : Int32} {w_at : Int32} {w_fault : Int32} {w_opened : Int32} {N d : Nat} {go : Int32 → Int32 → Int32 → Int32 → Int32 → List Int32 → List Int32 → List Int32 → Option (Int32 × Int32 × Int32 × Int32)} {dgo : Nat} (hgo : ∀ (a : Nat → Nat) (v_keptMany : Int32) (v_done : Int32) (v_rowsOf : Int32) (v_columnsOf : Int32) (v_folded : Int32) (v_wronged : Int32) (v_tapeMany : Int32) (v_textMany : Int32) (v_base : Int32) (v_at : Int32) (v_ends : Int32) (v_fault : Int32) (v_opened : Int32) (v_bentMany : Int32) (v_bentWrong : Int32) (v_moreWorn : Int32) (v_planned : Int32) (v_allWrong : Int32) (v_allWorn : Int32) (v_z : Int32) (v_wishedField : Int32) (v_isFound : Bool) (v_bestWrong : Int32) (v_bestWorn : Int32) (v_bestMany : Int32) (v_soughtBy : Int32) (v_sought : Int32) (v_soughtAt : Int32) (v_foundMany : Int32) (v_foundOrder : Int32) (v_isKept : Bool) (v_imageRows : Int32) (v_imageColumns : Int32) (v_imageFolded : Int32) (v_imageWronged : Int32) (v_bodies : Int32) (v_ran : Int32) (v_ownKind : Int32) (v_ownNumber : Int32) (v_limit : List Int32) (v_changeWas : List Int32) (v_changeIs : List Int32) (v_shapeRows : List Int32) (v_shapeColumns : List Int32) (v_row : List Int32) (v_column : List Int32) (v_below : List Int32) (v_face : List Int32) (v_worn : List Int32) (v_lastBend : List Int32) (v_tape : List Int32) (v_text : List Int32) (v_names : List Int32) (v_bends : List Int32) (v_high : List Int32) (v_to : List Int32) (v_pileSize : List Int32) (v_planLine : List Int32) (v_planWay : List Int32) (v_way1 : List Int32) (v_bestWay : List Int32) (v_order1 : List Int32) (v_placeIn : List Int32) (v_bodyKind : List Int32) (v_trace : List Int32) (v_shelf : List Int32) (v_many : List Int32) (v_items : List Int64) (v_carried : List Int64) (r : Int32) (w_at : Int32) (w_fault : Int32) (w_opened : Int32), go v_base v_at v_ends v_fault v_opened v_tape v_text v_names = some (r, w_at, w_fault, w_opened) → mm_Ct l yX9_one cX9_one 5 (some .int) dgo D (mm_T cI cL cS cH) [.ref (a 0)] (wd_X9 cI cL cS cH a v_keptMany v_done v_rowsOf v_columnsOf v_folded v_wronged v_tapeMany v_textMany v_base v_at v_ends v_fault v_opened v_bentMany v_bentWrong v_moreWorn v_planned v_allWrong v_allWorn v_z v_wishedField v_isFound v_bestWrong v_bestWorn v_bestMany v_soughtBy v_sought v_soughtAt v_foundMany v_foundOrder v_isKept v_imageRows v_imageColumns v_imageFolded v_imageWronged v_bodies v_ran v_ownKind v_ownNumber v_limit v_changeWas v_changeIs v_shapeRows v_shapeColumns v_row v_column v_below v_face v_worn v_lastBend v_tape v_text v_names v_bends v_high v_to v_pileSize v_planLine v_planWay v_way1 v_bestWay v_order1 v_placeIn v_bodyKind v_trace v_shelf v_many v_items v_carried) (wd_X9 cI cL cS cH a v_keptMany v_done v_rowsOf v_columnsOf v_folded v_wronged v_tapeMany v_textMany v_base w_at v_ends w_fault w_opened v_bentMany v_bentWrong v_moreWorn v_planned v_allWrong v_allWorn v_z v_wishedField v_isFound v_bestWrong v_bestWorn v_bestMany v_soughtBy v_sought v_soughtAt v_foundMany v_foundOrder v_isKept v_imageRows v_imageColumns v_imageFolded v_imageWronged v_bodies v_ran v_ownKind v_ownNumber v_limit v_changeWas v_changeIs v_shapeRows v_shapeColumns v_row v_column v_below v_face v_worn v_lastBend v_tape v_text v_names v_bends v_high v_to v_pileSize v_planLine v_planWay v_way1 v_bestWay v_order1 v_placeIn v_bodyKind v_trace v_shelf v_many v_items v_carried) (some (.int r))) (hE : 2 ≤ dgo) (hd : dgo + 3 ≤ d) (hf : fX9_compared N go v_base v_at v_ends v_fault v_opened v_tape v_text v_names = some (r, w_at, w_fault, w_opened)) : mm_Ct l yX9_compared cX9_compared 4 (some .int) d D (mm_T cI cL cS cH) [.ref (a 0)] (wd_X9 cI cL cS cH a v_keptMany v_done v_rowsOf v_columnsOf v_folded v_wronged v_tapeMany v_textMany v_base v_at v_ends v_fault v_opened v_bentMany v_bentWrong v_moreWorn v_planned v_allWrong v_allWorn v_z v_wishedField v_isFound v_bestWrong v_bestWorn v_bestMany v_soughtBy v_sought v_soughtAt v_foundMany v_foundOrder v_isKept v_imageRows v_imageColumns v_imageFolded v_imageWronged v_bodies v_ran v_ownKind v_ownNumber v_limit v_changeWas v_changeIs v_shapeRows v_shapeColumns v_row v_column v_below v_face v_worn v_lastBend v_tape v_text v_names v_bends v_high v_to v_pileSize v_planLine v_planWay v_way1 v_bestWay v_order1 v_placeIn v_bodyKind v_trace v_shelf v_many v_items v_carried) (wd_X9 cI cL cS cH a v_keptMany v_done v_rowsOf v_columnsOf v_folded v_wronged v_tapeMany v_textMany v_base w_at v_ends w_fault w_opened v_bentMany v_bentWrong v_moreWorn v_planned v_allWrong v_allWorn v_z v_wishedField v_isFound v_bestWrong v_bestWorn v_bestMany v_soughtBy v_sought v_soughtAt v_foundMany v_foundOrder v_isKept v_imageRows v_imageColumns v_imageFolded v_imageWronged v_bodies v_ran v_ownKind v_ownNumber v_limit v_changeWas v_changeIs v_shapeRows v_shapeColumns v_row v_column v_below v_face v_worn v_lastBend v_tape v_text v_names v_bends v_high v_to v_pileSize v_planLine v_planWay v_way1 v_bestWay v_order1 v_placeIn v_bodyKind v_trace v_shelf v_many v_items v_carried) (some (.int r)) := by
  refine mm_of (by decide) (Nat.le_of_ble_eq_true rfl) ?_
  intro p e s m args below meth c A H locs ls C0 hP hD hA hS hl
  have C0 : mm_Cx p s m args meth c RX9 cX9_compared 4 (some .int) D (mm_T cI cL cS cH) A := C0
  obtain ⟨hx, hb, hml, hown, hts, hr, hlocks, hK, hSt⟩ := id C0
  have hl : lv_has ls 4 [(0, .ref (a 0))] := hl
  unfold fX9_compared at hf
  refine lv_aload_n hx hb dX9_compared_0 rfl (lv_at hl 0 rfl) ?_
  obtain ⟨r_1, w_2, w_3, w_4, hc_5, hf⟩ := mm_bd4s hf
  refine mm_callVF (q0 := 0) (ci := 9) (rest := []) C0 lk_X9_175 (ctX9_sums (a := a) (d := d - 1) hgo hE (by omega) hc_5) (by omega) rfl hl.1 rfl (mm_cat rfl) dX9_compared_1 hP hD hA hS rfl rfl (fun H locs hP hD hS => ?_)
  refine W.eq (g2 := F0 m 4 ls [.int r_1]) rfl ?_
  refine lv_istore_n (lv' := [(1, .int r_1), (0, .ref (a 0))]) hx hb dX9_compared_4 rfl hl (by decide) rfl (fun ls hl => ?_)
  refine lv_aload_n hx hb dX9_compared_5 rfl (lv_at hl 1 rfl) ?_
  obtain ⟨r_6, hc_7, hf⟩ := mm_bd1s hf
  refine mm_callVF (q0 := 0) (ci := 9) (rest := []) C0 lk_X9_162 (ctX9_byteAt (a := a) (d := d - 1) (by omega) hc_7) (by omega) rfl hl.1 rfl (mm_cat rfl) dX9_compared_6 hP hD hA hS rfl rfl (fun H locs hP hD hS => ?_)
  refine W.eq (g2 := F0 m 9 ls [.int r_6]) rfl ?_
  refine lv_istore_n (lv' := [(2, .int r_6), (1, .int r_1), (0, .ref (a 0))]) hx hb dX9_compared_9 rfl hl (by decide) rfl (fun ls hl => ?_)
  refine lv_aload_n hx hb dX9_compared_10 rfl (lv_at hl 2 rfl) ?_
  refine mm_get C0 hP iw_X9 0 rfl rfl 24 (by decide) fl_X9_159 rfl dX9_compared_11 ?_
  refine lv_if_ge (tgt := 35) hx hb dX9_compared_14 (by decide) (fun c_8 => ?_) (fun c_8 => ?_)
  · have hf := mm_ip hf c_8
    refine lv_iload_n hx hb dX9_compared_35 rfl (lv_at hl 1 rfl) ?_
    apply mm_sub4 hf
    exact mm_iret C0 hP hD hS dX9_compared_36
  · have hf := mm_in hf c_8
    refine lv_iload_n hx hb dX9_compared_17 rfl (lv_at hl 0 rfl) ?_
    refine lv_bipush (v := 60) hx hb dX9_compared_18 (by decide) ?_
    refine lv_icmp_eq (tgt := 37) hx hb dX9_compared_20 (by decide) (fun c_9 => ?_) (fun c_9 => ?_)
    · have hf := mm_ip hf c_9
      exact tX9_compared_37 hgo hE hd C0 hA N  _ _ _ _ _ _ _ _ _ _ H locs ls hf hP hD hS (lv_sub hl [2, 1, 0] rfl)
    · have hf := mm_in hf c_9
      refine lv_iload_n hx hb dX9_compared_23 rfl (lv_at hl 0 rfl) ?_
      refine lv_bipush (v := 61) hx hb dX9_compared_24 (by decide) ?_
      refine lv_icmp_eq (tgt := 37) hx hb dX9_compared_26 (by decide) (fun c_10 => ?_) (fun c_10 => ?_)
      · have hf := mm_ip hf c_10
        exact tX9_compared_37 hgo hE hd C0 hA N  _ _ _ _ _ _ _ _ _ _ H locs ls hf hP hD hS (lv_sub hl [2, 1, 0] rfl)
      · have hf := mm_in hf c_10
        refine lv_iload_n hx hb dX9_compared_29 rfl (lv_at hl 0 rfl) ?_
        refine lv_bipush (v := 62) hx hb dX9_compared_30 (by decide) ?_
        refine lv_icmp_eq (tgt := 37) hx hb dX9_compared_32 (by decide) (fun c_11 => ?_) (fun c_11 => ?_)
        · have hf := mm_ip hf c_11
          exact tX9_compared_37 hgo hE hd C0 hA N  _ _ _ _ _ _ _ _ _ _ H locs ls hf hP hD hS (lv_sub hl [2, 1, 0] rfl)
        · have hf := mm_in hf c_11
          refine lv_iload_n hx hb dX9_compared_35 rfl (lv_at hl 1 rfl) ?_
          apply mm_sub4 hf
          exact mm_iret C0 hP hD hS dX9_compared_36

theorem nb_dX9_both_0 : bls_w cX9_both [(0, [42]), (1, [182, 0, 172]), (4, [60]), (5, [42]), (6, [16, 38]), (8, [182, 0, 168]), (11, [153, 0, 25]), (14, [42]), (15, [182, 0, 172]), (18, [61]), (19, [27]), (20, [153, 0, 11])] := bls_of (by decide +kernel)
theorem dX9_both_0 : decode cX9_both 0 = .ok (.aload_n 0, 1) := op_42 nb_dX9_both_0.1
set_option maxRecDepth 100000 in
theorem dX9_both_1 : decode cX9_both 1 = .ok (.invokevirtual 172, 3) := (op_182 nb_dX9_both_0.2.1).trans rfl
theorem dX9_both_4 : decode cX9_both 4 = .ok (.istore_n 1, 1) := op_60 nb_dX9_both_0.2.2.1
theorem dX9_both_5 : decode cX9_both 5 = .ok (.aload_n 0, 1) := op_42 nb_dX9_both_0.2.2.2.1
set_option maxRecDepth 100000 in
theorem dX9_both_6 : decode cX9_both 6 = .ok (.bipush 38, 2) := (op_16 nb_dX9_both_0.2.2.2.2.1).trans rfl
set_option maxRecDepth 100000 in
theorem dX9_both_8 : decode cX9_both 8 = .ok (.invokevirtual 168, 3) := (op_182 nb_dX9_both_0.2.2.2.2.2.1).trans rfl
set_option maxRecDepth 100000 in
theorem dX9_both_11 : decode cX9_both 11 = .ok (.ifCond .eq 25, 3) := (op_153 nb_dX9_both_0.2.2.2.2.2.2.1).trans rfl
theorem dX9_both_14 : decode cX9_both 14 = .ok (.aload_n 0, 1) := op_42 nb_dX9_both_0.2.2.2.2.2.2.2.1
set_option maxRecDepth 100000 in
theorem dX9_both_15 : decode cX9_both 15 = .ok (.invokevirtual 172, 3) := (op_182 nb_dX9_both_0.2.2.2.2.2.2.2.2.1).trans rfl
theorem dX9_both_18 : decode cX9_both 18 = .ok (.istore_n 2, 1) := op_61 nb_dX9_both_0.2.2.2.2.2.2.2.2.2.1
theorem dX9_both_19 : decode cX9_both 19 = .ok (.iload_n 1, 1) := op_27 nb_dX9_both_0.2.2.2.2.2.2.2.2.2.2.1
set_option maxRecDepth 100000 in
theorem dX9_both_20 : decode cX9_both 20 = .ok (.ifCond .eq 11, 3) := (op_153 nb_dX9_both_0.2.2.2.2.2.2.2.2.2.2.2.1).trans rfl
theorem nb_dX9_both_23 : bls_w cX9_both [(23, [28]), (24, [153, 0, 7]), (27, [4]), (28, [167, 0, 4]), (31, [3]), (32, [60]), (33, [167, 255, 228]), (36, [27]), (37, [172])] := bls_of (by decide +kernel)
theorem dX9_both_23 : decode cX9_both 23 = .ok (.iload_n 2, 1) := op_28 nb_dX9_both_23.1
set_option maxRecDepth 100000 in
theorem dX9_both_24 : decode cX9_both 24 = .ok (.ifCond .eq 7, 3) := (op_153 nb_dX9_both_23.2.1).trans rfl
theorem dX9_both_27 : decode cX9_both 27 = .ok (.iconst 1, 1) := op_4 nb_dX9_both_23.2.2.1
set_option maxRecDepth 100000 in
theorem dX9_both_28 : decode cX9_both 28 = .ok (.goto 4, 3) := (op_167 nb_dX9_both_23.2.2.2.1).trans rfl
theorem dX9_both_31 : decode cX9_both 31 = .ok (.iconst 0, 1) := op_3 nb_dX9_both_23.2.2.2.2.1
theorem dX9_both_32 : decode cX9_both 32 = .ok (.istore_n 1, 1) := op_60 nb_dX9_both_23.2.2.2.2.2.1
set_option maxRecDepth 100000 in
theorem dX9_both_33 : decode cX9_both 33 = .ok (.goto (-28), 3) := (op_167 nb_dX9_both_23.2.2.2.2.2.2.1).trans rfl
theorem dX9_both_36 : decode cX9_both 36 = .ok (.iload_n 1, 1) := op_27 nb_dX9_both_23.2.2.2.2.2.2.2.1
theorem dX9_both_37 : decode cX9_both 37 = .ok (.ireturn, 1) := op_172 nb_dX9_both_23.2.2.2.2.2.2.2.2.1
def fX9_both_32 (N : Nat) (go : Int32 → Int32 → Int32 → Int32 → Int32 → List Int32 → List Int32 → List Int32 → Option (Int32 × Int32 × Int32 × Int32)) (k_5 : Int32 → Int32 → Int32 → Int32 → Int32 → Int32 → List Int32 → List Int32 → List Int32 → Option (Int32 × Int32 × Int32 × Int32)) (s0 : Int32) (v_base : Int32) (v_at : Int32) (v_ends : Int32) (v_fault : Int32) (v_opened : Int32) (v_tape : List Int32) (v_text : List Int32) (v_names : List Int32) : Option (Int32 × Int32 × Int32 × Int32) :=
    k_5 s0 v_base v_at v_ends v_fault v_opened v_tape v_text v_names

set_option maxHeartbeats 4000000 in
set_option maxRecDepth 100000 in
theorem tX9_both_32 {p : Program} {l : Launch} {e : Env} {s : State} {m : MethodId} {args : Array Value} {below : List Frame} {meth : Method} {c : Code} {D : va_G} {cI cL cS cH : ClassId} {A : Nat → Prop} {d : Nat} {a : Nat → Nat} {go : Int32 → Int32 → Int32 → Int32 → Int32 → List Int32 → List Int32 → List Int32 → Option (Int32 × Int32 × Int32 × Int32)} {dgo : Nat} (hgo : ∀ (a : Nat → Nat) (v_keptMany : Int32) (v_done : Int32) (v_rowsOf : Int32) (v_columnsOf : Int32) (v_folded : Int32) (v_wronged : Int32) (v_tapeMany : Int32) (v_textMany : Int32) (v_base : Int32) (v_at : Int32) (v_ends : Int32) (v_fault : Int32) (v_opened : Int32) (v_bentMany : Int32) (v_bentWrong : Int32) (v_moreWorn : Int32) (v_planned : Int32) (v_allWrong : Int32) (v_allWorn : Int32) (v_z : Int32) (v_wishedField : Int32) (v_isFound : Bool) (v_bestWrong : Int32) (v_bestWorn : Int32) (v_bestMany : Int32) (v_soughtBy : Int32) (v_sought : Int32) (v_soughtAt : Int32) (v_foundMany : Int32) (v_foundOrder : Int32) (v_isKept : Bool) (v_imageRows : Int32) (v_imageColumns : Int32) (v_imageFolded : Int32) (v_imageWronged : Int32) (v_bodies : Int32) (v_ran : Int32) (v_ownKind : Int32) (v_ownNumber : Int32) (v_limit : List Int32) (v_changeWas : List Int32) (v_changeIs : List Int32) (v_shapeRows : List Int32) (v_shapeColumns : List Int32) (v_row : List Int32) (v_column : List Int32) (v_below : List Int32) (v_face : List Int32) (v_worn : List Int32) (v_lastBend : List Int32) (v_tape : List Int32) (v_text : List Int32) (v_names : List Int32) (v_bends : List Int32) (v_high : List Int32) (v_to : List Int32) (v_pileSize : List Int32) (v_planLine : List Int32) (v_planWay : List Int32) (v_way1 : List Int32) (v_bestWay : List Int32) (v_order1 : List Int32) (v_placeIn : List Int32) (v_bodyKind : List Int32) (v_trace : List Int32) (v_shelf : List Int32) (v_many : List Int32) (v_items : List Int64) (v_carried : List Int64) (r : Int32) (w_at : Int32) (w_fault : Int32) (w_opened : Int32), go v_base v_at v_ends v_fault v_opened v_tape v_text v_names = some (r, w_at, w_fault, w_opened) → mm_Ct l yX9_one cX9_one 5 (some .int) dgo D (mm_T cI cL cS cH) [.ref (a 0)] (wd_X9 cI cL cS cH a v_keptMany v_done v_rowsOf v_columnsOf v_folded v_wronged v_tapeMany v_textMany v_base v_at v_ends v_fault v_opened v_bentMany v_bentWrong v_moreWorn v_planned v_allWrong v_allWorn v_z v_wishedField v_isFound v_bestWrong v_bestWorn v_bestMany v_soughtBy v_sought v_soughtAt v_foundMany v_foundOrder v_isKept v_imageRows v_imageColumns v_imageFolded v_imageWronged v_bodies v_ran v_ownKind v_ownNumber v_limit v_changeWas v_changeIs v_shapeRows v_shapeColumns v_row v_column v_below v_face v_worn v_lastBend v_tape v_text v_names v_bends v_high v_to v_pileSize v_planLine v_planWay v_way1 v_bestWay v_order1 v_placeIn v_bodyKind v_trace v_shelf v_many v_items v_carried) (wd_X9 cI cL cS cH a v_keptMany v_done v_rowsOf v_columnsOf v_folded v_wronged v_tapeMany v_textMany v_base w_at v_ends w_fault w_opened v_bentMany v_bentWrong v_moreWorn v_planned v_allWrong v_allWorn v_z v_wishedField v_isFound v_bestWrong v_bestWorn v_bestMany v_soughtBy v_sought v_soughtAt v_foundMany v_foundOrder v_isKept v_imageRows v_imageColumns v_imageFolded v_imageWronged v_bodies v_ran v_ownKind v_ownNumber v_limit v_changeWas v_changeIs v_shapeRows v_shapeColumns v_row v_column v_below v_face v_worn v_lastBend v_tape v_text v_names v_bends v_high v_to v_pileSize v_planLine v_planWay v_way1 v_bestWay v_order1 v_placeIn v_bodyKind v_trace v_shelf v_many v_items v_carried) (some (.int r))) (hE : 2 ≤ dgo) (hd : dgo + 4 ≤ d) (C0 : mm_Cx p s m args meth c RX9 cX9_both 3 (some .int) D (mm_T cI cL cS cH) A) (hA : ∀ q, s.heap.size ≤ q → A q) {v_keptMany : Int32} {v_done : Int32} {v_rowsOf : Int32} {v_columnsOf : Int32} {v_folded : Int32} {v_wronged : Int32} {v_tapeMany : Int32} {v_textMany : Int32} {v_bentMany : Int32} {v_bentWrong : Int32} {v_moreWorn : Int32} {v_planned : Int32} {v_allWrong : Int32} {v_allWorn : Int32} {v_z : Int32} {v_wishedField : Int32} {v_isFound : Bool} {v_bestWrong : Int32} {v_bestWorn : Int32} {v_bestMany : Int32} {v_soughtBy : Int32} {v_sought : Int32} {v_soughtAt : Int32} {v_foundMany : Int32} {v_foundOrder : Int32} {v_isKept : Bool} {v_imageRows : Int32} {v_imageColumns : Int32} {v_imageFolded : Int32} {v_imageWronged : Int32} {v_bodies : Int32} {v_ran : Int32} {v_ownKind : Int32} {v_ownNumber : Int32} {v_limit : List Int32} {v_changeWas : List Int32} {v_changeIs : List Int32} {v_shapeRows : List Int32} {v_shapeColumns : List Int32} {v_row : List Int32} {v_column : List Int32} {v_below : List Int32} {v_face : List Int32} {v_worn : List Int32} {v_lastBend : List Int32} {v_bends : List Int32} {v_high : List Int32} {v_to : List Int32} {v_pileSize : List Int32} {v_planLine : List Int32} {v_planWay : List Int32} {v_way1 : List Int32} {v_bestWay : List Int32} {v_order1 : List Int32} {v_placeIn : List Int32} {v_bodyKind : List Int32} {v_trace : List Int32} {v_shelf : List Int32} {v_many : List Int32} {v_items : List Int64} {v_carried : List Int64} {r : Int32} {w_at : Int32} {w_fault : Int32} {w_opened : Int32} (N : Nat) {k_5 : Int32 → Int32 → Int32 → Int32 → Int32 → Int32 → List Int32 → List Int32 → List Int32 → Option (Int32 × Int32 × Int32 × Int32)} (hk_5 : ∀ (x1 : Int32) (v_base : Int32) (v_at : Int32) (v_ends : Int32) (v_fault : Int32) (v_opened : Int32) (v_tape : List Int32) (v_text : List Int32) (v_names : List Int32) (H : Heap) (locs : List Loc) (ls : Array Slot), k_5 x1 v_base v_at v_ends v_fault v_opened v_tape v_text v_names = some (r, w_at, w_fault, w_opened) → va_P D mm_cl (wd_X9 cI cL cS cH a v_keptMany v_done v_rowsOf v_columnsOf v_folded v_wronged v_tapeMany v_textMany v_base v_at v_ends v_fault v_opened v_bentMany v_bentWrong v_moreWorn v_planned v_allWrong v_allWorn v_z v_wishedField v_isFound v_bestWrong v_bestWorn v_bestMany v_soughtBy v_sought v_soughtAt v_foundMany v_foundOrder v_isKept v_imageRows v_imageColumns v_imageFolded v_imageWronged v_bodies v_ran v_ownKind v_ownNumber v_limit v_changeWas v_changeIs v_shapeRows v_shapeColumns v_row v_column v_below v_face v_worn v_lastBend v_tape v_text v_names v_bends v_high v_to v_pileSize v_planLine v_planWay v_way1 v_bestWay v_order1 v_placeIn v_bodyKind v_trace v_shelf v_many v_items v_carried) H → va_D A (wd_X9 cI cL cS cH a v_keptMany v_done v_rowsOf v_columnsOf v_folded v_wronged v_tapeMany v_textMany v_base v_at v_ends v_fault v_opened v_bentMany v_bentWrong v_moreWorn v_planned v_allWrong v_allWorn v_z v_wishedField v_isFound v_bestWrong v_bestWorn v_bestMany v_soughtBy v_sought v_soughtAt v_foundMany v_foundOrder v_isKept v_imageRows v_imageColumns v_imageFolded v_imageWronged v_bodies v_ran v_ownKind v_ownNumber v_limit v_changeWas v_changeIs v_shapeRows v_shapeColumns v_row v_column v_below v_face v_worn v_lastBend v_tape v_text v_names v_bends v_high v_to v_pileSize v_planLine v_planWay v_way1 v_bestWay v_order1 v_placeIn v_bodyKind v_trace v_shelf v_many v_items v_carried) → va_S A s.heap H locs → lv_has ls 3 [(0, .ref (a 0)), (1, .int x1)] → W p l e (mm_rr d) s m args below meth c H locs 0 0 (mm_Z below D A (wd_X9 cI cL cS cH a v_keptMany v_done v_rowsOf v_columnsOf v_folded v_wronged v_tapeMany v_textMany v_base w_at v_ends w_fault w_opened v_bentMany v_bentWrong v_moreWorn v_planned v_allWrong v_allWorn v_z v_wishedField v_isFound v_bestWrong v_bestWorn v_bestMany v_soughtBy v_sought v_soughtAt v_foundMany v_foundOrder v_isKept v_imageRows v_imageColumns v_imageFolded v_imageWronged v_bodies v_ran v_ownKind v_ownNumber v_limit v_changeWas v_changeIs v_shapeRows v_shapeColumns v_row v_column v_below v_face v_worn v_lastBend v_tape v_text v_names v_bends v_high v_to v_pileSize v_planLine v_planWay v_way1 v_bestWay v_order1 v_placeIn v_bodyKind v_trace v_shelf v_many v_items v_carried) (some (.int r)) args s) (F0 m 5 ls [])) : ∀ (s0 : Int32) (v_base : Int32) (v_at : Int32) (v_ends : Int32) (v_fault : Int32) (v_opened : Int32) (v_tape : List Int32) (v_text : List Int32) (v_names : List Int32) (H : Heap) (locs : List Loc) (ls : Array Slot), fX9_both_32 N go k_5 s0 v_base v_at v_ends v_fault v_opened v_tape v_text v_names = some (r, w_at, w_fault, w_opened) → va_P D mm_cl (wd_X9 cI cL cS cH a v_keptMany v_done v_rowsOf v_columnsOf v_folded v_wronged v_tapeMany v_textMany v_base v_at v_ends v_fault v_opened v_bentMany v_bentWrong v_moreWorn v_planned v_allWrong v_allWorn v_z v_wishedField v_isFound v_bestWrong v_bestWorn v_bestMany v_soughtBy v_sought v_soughtAt v_foundMany v_foundOrder v_isKept v_imageRows v_imageColumns v_imageFolded v_imageWronged v_bodies v_ran v_ownKind v_ownNumber v_limit v_changeWas v_changeIs v_shapeRows v_shapeColumns v_row v_column v_below v_face v_worn v_lastBend v_tape v_text v_names v_bends v_high v_to v_pileSize v_planLine v_planWay v_way1 v_bestWay v_order1 v_placeIn v_bodyKind v_trace v_shelf v_many v_items v_carried) H → va_D A (wd_X9 cI cL cS cH a v_keptMany v_done v_rowsOf v_columnsOf v_folded v_wronged v_tapeMany v_textMany v_base v_at v_ends v_fault v_opened v_bentMany v_bentWrong v_moreWorn v_planned v_allWrong v_allWorn v_z v_wishedField v_isFound v_bestWrong v_bestWorn v_bestMany v_soughtBy v_sought v_soughtAt v_foundMany v_foundOrder v_isKept v_imageRows v_imageColumns v_imageFolded v_imageWronged v_bodies v_ran v_ownKind v_ownNumber v_limit v_changeWas v_changeIs v_shapeRows v_shapeColumns v_row v_column v_below v_face v_worn v_lastBend v_tape v_text v_names v_bends v_high v_to v_pileSize v_planLine v_planWay v_way1 v_bestWay v_order1 v_placeIn v_bodyKind v_trace v_shelf v_many v_items v_carried) → va_S A s.heap H locs → lv_has ls 3 [(0, .ref (a 0))] → W p l e (mm_rr d) s m args below meth c H locs 0 0 (mm_Z below D A (wd_X9 cI cL cS cH a v_keptMany v_done v_rowsOf v_columnsOf v_folded v_wronged v_tapeMany v_textMany v_base w_at v_ends w_fault w_opened v_bentMany v_bentWrong v_moreWorn v_planned v_allWrong v_allWorn v_z v_wishedField v_isFound v_bestWrong v_bestWorn v_bestMany v_soughtBy v_sought v_soughtAt v_foundMany v_foundOrder v_isKept v_imageRows v_imageColumns v_imageFolded v_imageWronged v_bodies v_ran v_ownKind v_ownNumber v_limit v_changeWas v_changeIs v_shapeRows v_shapeColumns v_row v_column v_below v_face v_worn v_lastBend v_tape v_text v_names v_bends v_high v_to v_pileSize v_planLine v_planWay v_way1 v_bestWay v_order1 v_placeIn v_bodyKind v_trace v_shelf v_many v_items v_carried) (some (.int r)) args s) (F0 m 32 ls [.int s0]) := by
  obtain ⟨hx, hb, hml, hown, hts, hr, hlocks, hK, hSt⟩ := id C0
  intro s0 v_base v_at v_ends v_fault v_opened v_tape v_text v_names H locs ls hf hP hD hS hl
  unfold fX9_both_32 at hf
  refine lv_istore_n (lv' := [(1, .int s0), (0, .ref (a 0))]) hx hb dX9_both_32 rfl hl (by decide) rfl (fun ls hl => ?_)
  refine lv_goto (tgt := 5) hx hb dX9_both_33 (by decide) ?_
  exact hk_5 _ _ _ _ _ _ _ _ _ H locs ls hf hP hD hS (lv_sub hl [1, 0] rfl)

def fX9_both_31 (N : Nat) (go : Int32 → Int32 → Int32 → Int32 → Int32 → List Int32 → List Int32 → List Int32 → Option (Int32 × Int32 × Int32 × Int32)) (k_5 : Int32 → Int32 → Int32 → Int32 → Int32 → Int32 → List Int32 → List Int32 → List Int32 → Option (Int32 × Int32 × Int32 × Int32)) (v_base : Int32) (v_at : Int32) (v_ends : Int32) (v_fault : Int32) (v_opened : Int32) (v_tape : List Int32) (v_text : List Int32) (v_names : List Int32) : Option (Int32 × Int32 × Int32 × Int32) :=
    fX9_both_32 N go k_5 (0 : Int32) v_base v_at v_ends v_fault v_opened v_tape v_text v_names

set_option maxHeartbeats 4000000 in
set_option maxRecDepth 100000 in
theorem tX9_both_31 {p : Program} {l : Launch} {e : Env} {s : State} {m : MethodId} {args : Array Value} {below : List Frame} {meth : Method} {c : Code} {D : va_G} {cI cL cS cH : ClassId} {A : Nat → Prop} {d : Nat} {a : Nat → Nat} {go : Int32 → Int32 → Int32 → Int32 → Int32 → List Int32 → List Int32 → List Int32 → Option (Int32 × Int32 × Int32 × Int32)} {dgo : Nat} (hgo : ∀ (a : Nat → Nat) (v_keptMany : Int32) (v_done : Int32) (v_rowsOf : Int32) (v_columnsOf : Int32) (v_folded : Int32) (v_wronged : Int32) (v_tapeMany : Int32) (v_textMany : Int32) (v_base : Int32) (v_at : Int32) (v_ends : Int32) (v_fault : Int32) (v_opened : Int32) (v_bentMany : Int32) (v_bentWrong : Int32) (v_moreWorn : Int32) (v_planned : Int32) (v_allWrong : Int32) (v_allWorn : Int32) (v_z : Int32) (v_wishedField : Int32) (v_isFound : Bool) (v_bestWrong : Int32) (v_bestWorn : Int32) (v_bestMany : Int32) (v_soughtBy : Int32) (v_sought : Int32) (v_soughtAt : Int32) (v_foundMany : Int32) (v_foundOrder : Int32) (v_isKept : Bool) (v_imageRows : Int32) (v_imageColumns : Int32) (v_imageFolded : Int32) (v_imageWronged : Int32) (v_bodies : Int32) (v_ran : Int32) (v_ownKind : Int32) (v_ownNumber : Int32) (v_limit : List Int32) (v_changeWas : List Int32) (v_changeIs : List Int32) (v_shapeRows : List Int32) (v_shapeColumns : List Int32) (v_row : List Int32) (v_column : List Int32) (v_below : List Int32) (v_face : List Int32) (v_worn : List Int32) (v_lastBend : List Int32) (v_tape : List Int32) (v_text : List Int32) (v_names : List Int32) (v_bends : List Int32) (v_high : List Int32) (v_to : List Int32) (v_pileSize : List Int32) (v_planLine : List Int32) (v_planWay : List Int32) (v_way1 : List Int32) (v_bestWay : List Int32) (v_order1 : List Int32) (v_placeIn : List Int32) (v_bodyKind : List Int32) (v_trace : List Int32) (v_shelf : List Int32) (v_many : List Int32) (v_items : List Int64) (v_carried : List Int64) (r : Int32) (w_at : Int32) (w_fault : Int32) (w_opened : Int32), go v_base v_at v_ends v_fault v_opened v_tape v_text v_names = some (r, w_at, w_fault, w_opened) → mm_Ct l yX9_one cX9_one 5 (some .int) dgo D (mm_T cI cL cS cH) [.ref (a 0)] (wd_X9 cI cL cS cH a v_keptMany v_done v_rowsOf v_columnsOf v_folded v_wronged v_tapeMany v_textMany v_base v_at v_ends v_fault v_opened v_bentMany v_bentWrong v_moreWorn v_planned v_allWrong v_allWorn v_z v_wishedField v_isFound v_bestWrong v_bestWorn v_bestMany v_soughtBy v_sought v_soughtAt v_foundMany v_foundOrder v_isKept v_imageRows v_imageColumns v_imageFolded v_imageWronged v_bodies v_ran v_ownKind v_ownNumber v_limit v_changeWas v_changeIs v_shapeRows v_shapeColumns v_row v_column v_below v_face v_worn v_lastBend v_tape v_text v_names v_bends v_high v_to v_pileSize v_planLine v_planWay v_way1 v_bestWay v_order1 v_placeIn v_bodyKind v_trace v_shelf v_many v_items v_carried) (wd_X9 cI cL cS cH a v_keptMany v_done v_rowsOf v_columnsOf v_folded v_wronged v_tapeMany v_textMany v_base w_at v_ends w_fault w_opened v_bentMany v_bentWrong v_moreWorn v_planned v_allWrong v_allWorn v_z v_wishedField v_isFound v_bestWrong v_bestWorn v_bestMany v_soughtBy v_sought v_soughtAt v_foundMany v_foundOrder v_isKept v_imageRows v_imageColumns v_imageFolded v_imageWronged v_bodies v_ran v_ownKind v_ownNumber v_limit v_changeWas v_changeIs v_shapeRows v_shapeColumns v_row v_column v_below v_face v_worn v_lastBend v_tape v_text v_names v_bends v_high v_to v_pileSize v_planLine v_planWay v_way1 v_bestWay v_order1 v_placeIn v_bodyKind v_trace v_shelf v_many v_items v_carried) (some (.int r))) (hE : 2 ≤ dgo) (hd : dgo + 4 ≤ d) (C0 : mm_Cx p s m args meth c RX9 cX9_both 3 (some .int) D (mm_T cI cL cS cH) A) (hA : ∀ q, s.heap.size ≤ q → A q) {v_keptMany : Int32} {v_done : Int32} {v_rowsOf : Int32} {v_columnsOf : Int32} {v_folded : Int32} {v_wronged : Int32} {v_tapeMany : Int32} {v_textMany : Int32} {v_bentMany : Int32} {v_bentWrong : Int32} {v_moreWorn : Int32} {v_planned : Int32} {v_allWrong : Int32} {v_allWorn : Int32} {v_z : Int32} {v_wishedField : Int32} {v_isFound : Bool} {v_bestWrong : Int32} {v_bestWorn : Int32} {v_bestMany : Int32} {v_soughtBy : Int32} {v_sought : Int32} {v_soughtAt : Int32} {v_foundMany : Int32} {v_foundOrder : Int32} {v_isKept : Bool} {v_imageRows : Int32} {v_imageColumns : Int32} {v_imageFolded : Int32} {v_imageWronged : Int32} {v_bodies : Int32} {v_ran : Int32} {v_ownKind : Int32} {v_ownNumber : Int32} {v_limit : List Int32} {v_changeWas : List Int32} {v_changeIs : List Int32} {v_shapeRows : List Int32} {v_shapeColumns : List Int32} {v_row : List Int32} {v_column : List Int32} {v_below : List Int32} {v_face : List Int32} {v_worn : List Int32} {v_lastBend : List Int32} {v_bends : List Int32} {v_high : List Int32} {v_to : List Int32} {v_pileSize : List Int32} {v_planLine : List Int32} {v_planWay : List Int32} {v_way1 : List Int32} {v_bestWay : List Int32} {v_order1 : List Int32} {v_placeIn : List Int32} {v_bodyKind : List Int32} {v_trace : List Int32} {v_shelf : List Int32} {v_many : List Int32} {v_items : List Int64} {v_carried : List Int64} {r : Int32} {w_at : Int32} {w_fault : Int32} {w_opened : Int32} (N : Nat) {k_5 : Int32 → Int32 → Int32 → Int32 → Int32 → Int32 → List Int32 → List Int32 → List Int32 → Option (Int32 × Int32 × Int32 × Int32)} (hk_5 : ∀ (x1 : Int32) (v_base : Int32) (v_at : Int32) (v_ends : Int32) (v_fault : Int32) (v_opened : Int32) (v_tape : List Int32) (v_text : List Int32) (v_names : List Int32) (H : Heap) (locs : List Loc) (ls : Array Slot), k_5 x1 v_base v_at v_ends v_fault v_opened v_tape v_text v_names = some (r, w_at, w_fault, w_opened) → va_P D mm_cl (wd_X9 cI cL cS cH a v_keptMany v_done v_rowsOf v_columnsOf v_folded v_wronged v_tapeMany v_textMany v_base v_at v_ends v_fault v_opened v_bentMany v_bentWrong v_moreWorn v_planned v_allWrong v_allWorn v_z v_wishedField v_isFound v_bestWrong v_bestWorn v_bestMany v_soughtBy v_sought v_soughtAt v_foundMany v_foundOrder v_isKept v_imageRows v_imageColumns v_imageFolded v_imageWronged v_bodies v_ran v_ownKind v_ownNumber v_limit v_changeWas v_changeIs v_shapeRows v_shapeColumns v_row v_column v_below v_face v_worn v_lastBend v_tape v_text v_names v_bends v_high v_to v_pileSize v_planLine v_planWay v_way1 v_bestWay v_order1 v_placeIn v_bodyKind v_trace v_shelf v_many v_items v_carried) H → va_D A (wd_X9 cI cL cS cH a v_keptMany v_done v_rowsOf v_columnsOf v_folded v_wronged v_tapeMany v_textMany v_base v_at v_ends v_fault v_opened v_bentMany v_bentWrong v_moreWorn v_planned v_allWrong v_allWorn v_z v_wishedField v_isFound v_bestWrong v_bestWorn v_bestMany v_soughtBy v_sought v_soughtAt v_foundMany v_foundOrder v_isKept v_imageRows v_imageColumns v_imageFolded v_imageWronged v_bodies v_ran v_ownKind v_ownNumber v_limit v_changeWas v_changeIs v_shapeRows v_shapeColumns v_row v_column v_below v_face v_worn v_lastBend v_tape v_text v_names v_bends v_high v_to v_pileSize v_planLine v_planWay v_way1 v_bestWay v_order1 v_placeIn v_bodyKind v_trace v_shelf v_many v_items v_carried) → va_S A s.heap H locs → lv_has ls 3 [(0, .ref (a 0)), (1, .int x1)] → W p l e (mm_rr d) s m args below meth c H locs 0 0 (mm_Z below D A (wd_X9 cI cL cS cH a v_keptMany v_done v_rowsOf v_columnsOf v_folded v_wronged v_tapeMany v_textMany v_base w_at v_ends w_fault w_opened v_bentMany v_bentWrong v_moreWorn v_planned v_allWrong v_allWorn v_z v_wishedField v_isFound v_bestWrong v_bestWorn v_bestMany v_soughtBy v_sought v_soughtAt v_foundMany v_foundOrder v_isKept v_imageRows v_imageColumns v_imageFolded v_imageWronged v_bodies v_ran v_ownKind v_ownNumber v_limit v_changeWas v_changeIs v_shapeRows v_shapeColumns v_row v_column v_below v_face v_worn v_lastBend v_tape v_text v_names v_bends v_high v_to v_pileSize v_planLine v_planWay v_way1 v_bestWay v_order1 v_placeIn v_bodyKind v_trace v_shelf v_many v_items v_carried) (some (.int r)) args s) (F0 m 5 ls [])) : ∀ (v_base : Int32) (v_at : Int32) (v_ends : Int32) (v_fault : Int32) (v_opened : Int32) (v_tape : List Int32) (v_text : List Int32) (v_names : List Int32) (H : Heap) (locs : List Loc) (ls : Array Slot), fX9_both_31 N go k_5 v_base v_at v_ends v_fault v_opened v_tape v_text v_names = some (r, w_at, w_fault, w_opened) → va_P D mm_cl (wd_X9 cI cL cS cH a v_keptMany v_done v_rowsOf v_columnsOf v_folded v_wronged v_tapeMany v_textMany v_base v_at v_ends v_fault v_opened v_bentMany v_bentWrong v_moreWorn v_planned v_allWrong v_allWorn v_z v_wishedField v_isFound v_bestWrong v_bestWorn v_bestMany v_soughtBy v_sought v_soughtAt v_foundMany v_foundOrder v_isKept v_imageRows v_imageColumns v_imageFolded v_imageWronged v_bodies v_ran v_ownKind v_ownNumber v_limit v_changeWas v_changeIs v_shapeRows v_shapeColumns v_row v_column v_below v_face v_worn v_lastBend v_tape v_text v_names v_bends v_high v_to v_pileSize v_planLine v_planWay v_way1 v_bestWay v_order1 v_placeIn v_bodyKind v_trace v_shelf v_many v_items v_carried) H → va_D A (wd_X9 cI cL cS cH a v_keptMany v_done v_rowsOf v_columnsOf v_folded v_wronged v_tapeMany v_textMany v_base v_at v_ends v_fault v_opened v_bentMany v_bentWrong v_moreWorn v_planned v_allWrong v_allWorn v_z v_wishedField v_isFound v_bestWrong v_bestWorn v_bestMany v_soughtBy v_sought v_soughtAt v_foundMany v_foundOrder v_isKept v_imageRows v_imageColumns v_imageFolded v_imageWronged v_bodies v_ran v_ownKind v_ownNumber v_limit v_changeWas v_changeIs v_shapeRows v_shapeColumns v_row v_column v_below v_face v_worn v_lastBend v_tape v_text v_names v_bends v_high v_to v_pileSize v_planLine v_planWay v_way1 v_bestWay v_order1 v_placeIn v_bodyKind v_trace v_shelf v_many v_items v_carried) → va_S A s.heap H locs → lv_has ls 3 [(0, .ref (a 0))] → W p l e (mm_rr d) s m args below meth c H locs 0 0 (mm_Z below D A (wd_X9 cI cL cS cH a v_keptMany v_done v_rowsOf v_columnsOf v_folded v_wronged v_tapeMany v_textMany v_base w_at v_ends w_fault w_opened v_bentMany v_bentWrong v_moreWorn v_planned v_allWrong v_allWorn v_z v_wishedField v_isFound v_bestWrong v_bestWorn v_bestMany v_soughtBy v_sought v_soughtAt v_foundMany v_foundOrder v_isKept v_imageRows v_imageColumns v_imageFolded v_imageWronged v_bodies v_ran v_ownKind v_ownNumber v_limit v_changeWas v_changeIs v_shapeRows v_shapeColumns v_row v_column v_below v_face v_worn v_lastBend v_tape v_text v_names v_bends v_high v_to v_pileSize v_planLine v_planWay v_way1 v_bestWay v_order1 v_placeIn v_bodyKind v_trace v_shelf v_many v_items v_carried) (some (.int r)) args s) (F0 m 31 ls []) := by
  obtain ⟨hx, hb, hml, hown, hts, hr, hlocks, hK, hSt⟩ := id C0
  intro v_base v_at v_ends v_fault v_opened v_tape v_text v_names H locs ls hf hP hD hS hl
  unfold fX9_both_31 at hf
  refine lv_iconst (v := 0) hx hb dX9_both_31 (by decide) ?_
  exact tX9_both_32 hgo hE hd C0 hA N hk_5 _ _ _ _ _ _ _ _ _ H locs ls hf hP hD hS (lv_sub hl [0] rfl)

def fX9_both_5 (N : Nat) (go : Int32 → Int32 → Int32 → Int32 → Int32 → List Int32 → List Int32 → List Int32 → Option (Int32 × Int32 × Int32 × Int32))  : Nat → Int32 → Int32 → Int32 → Int32 → Int32 → Int32 → List Int32 → List Int32 → List Int32 → Option (Int32 × Int32 × Int32 × Int32)
  | 0 => fun _ _ _ _ _ _ _ _ _ => none
  | n + 1 => fun x1 v_base v_at v_ends v_fault v_opened v_tape v_text v_names =>
    mm_bd2 (fX9_takes N (38 : Int32) v_base v_at v_ends v_fault v_tape v_text) (fun (r_6 : Bool) (w_7 : Int32) =>
    if r_6 = false then
    (some (x1, w_7, v_fault, v_opened))
    else (mm_bd4 (fX9_compared N go v_base w_7 v_ends v_fault v_opened v_tape v_text v_names) (fun (r_10 : Int32) (w_11 : Int32) (w_12 : Int32) (w_13 : Int32) =>
    if x1 = 0 then
    (fX9_both_31 N go (fX9_both_5 N go n) v_base w_11 v_ends w_12 w_13 v_tape v_text v_names)
    else (if r_10 = 0 then
    (fX9_both_31 N go (fX9_both_5 N go n) v_base w_11 v_ends w_12 w_13 v_tape v_text v_names)
    else (fX9_both_32 N go (fX9_both_5 N go n) (1 : Int32) v_base w_11 v_ends w_12 w_13 v_tape v_text v_names)))))

set_option maxHeartbeats 4000000 in
set_option maxRecDepth 100000 in
theorem tX9_both_5 {p : Program} {l : Launch} {e : Env} {s : State} {m : MethodId} {args : Array Value} {below : List Frame} {meth : Method} {c : Code} {D : va_G} {cI cL cS cH : ClassId} {A : Nat → Prop} {d : Nat} {a : Nat → Nat} {go : Int32 → Int32 → Int32 → Int32 → Int32 → List Int32 → List Int32 → List Int32 → Option (Int32 × Int32 × Int32 × Int32)} {dgo : Nat} (hgo : ∀ (a : Nat → Nat) (v_keptMany : Int32) (v_done : Int32) (v_rowsOf : Int32) (v_columnsOf : Int32) (v_folded : Int32) (v_wronged : Int32) (v_tapeMany : Int32) (v_textMany : Int32) (v_base : Int32) (v_at : Int32) (v_ends : Int32) (v_fault : Int32) (v_opened : Int32) (v_bentMany : Int32) (v_bentWrong : Int32) (v_moreWorn : Int32) (v_planned : Int32) (v_allWrong : Int32) (v_allWorn : Int32) (v_z : Int32) (v_wishedField : Int32) (v_isFound : Bool) (v_bestWrong : Int32) (v_bestWorn : Int32) (v_bestMany : Int32) (v_soughtBy : Int32) (v_sought : Int32) (v_soughtAt : Int32) (v_foundMany : Int32) (v_foundOrder : Int32) (v_isKept : Bool) (v_imageRows : Int32) (v_imageColumns : Int32) (v_imageFolded : Int32) (v_imageWronged : Int32) (v_bodies : Int32) (v_ran : Int32) (v_ownKind : Int32) (v_ownNumber : Int32) (v_limit : List Int32) (v_changeWas : List Int32) (v_changeIs : List Int32) (v_shapeRows : List Int32) (v_shapeColumns : List Int32) (v_row : List Int32) (v_column : List Int32) (v_below : List Int32) (v_face : List Int32) (v_worn : List Int32) (v_lastBend : List Int32) (v_tape : List Int32) (v_text : List Int32) (v_names : List Int32) (v_bends : List Int32) (v_high : List Int32) (v_to : List Int32) (v_pileSize : List Int32) (v_planLine : List Int32) (v_planWay : List Int32) (v_way1 : List Int32) (v_bestWay : List Int32) (v_order1 : List Int32) (v_placeIn : List Int32) (v_bodyKind : List Int32) (v_trace : List Int32) (v_shelf : List Int32) (v_many : List Int32) (v_items : List Int64) (v_carried : List Int64) (r : Int32) (w_at : Int32) (w_fault : Int32) (w_opened : Int32), go v_base v_at v_ends v_fault v_opened v_tape v_text v_names = some (r, w_at, w_fault, w_opened) → mm_Ct l yX9_one cX9_one 5 (some .int) dgo D (mm_T cI cL cS cH) [.ref (a 0)] (wd_X9 cI cL cS cH a v_keptMany v_done v_rowsOf v_columnsOf v_folded v_wronged v_tapeMany v_textMany v_base v_at v_ends v_fault v_opened v_bentMany v_bentWrong v_moreWorn v_planned v_allWrong v_allWorn v_z v_wishedField v_isFound v_bestWrong v_bestWorn v_bestMany v_soughtBy v_sought v_soughtAt v_foundMany v_foundOrder v_isKept v_imageRows v_imageColumns v_imageFolded v_imageWronged v_bodies v_ran v_ownKind v_ownNumber v_limit v_changeWas v_changeIs v_shapeRows v_shapeColumns v_row v_column v_below v_face v_worn v_lastBend v_tape v_text v_names v_bends v_high v_to v_pileSize v_planLine v_planWay v_way1 v_bestWay v_order1 v_placeIn v_bodyKind v_trace v_shelf v_many v_items v_carried) (wd_X9 cI cL cS cH a v_keptMany v_done v_rowsOf v_columnsOf v_folded v_wronged v_tapeMany v_textMany v_base w_at v_ends w_fault w_opened v_bentMany v_bentWrong v_moreWorn v_planned v_allWrong v_allWorn v_z v_wishedField v_isFound v_bestWrong v_bestWorn v_bestMany v_soughtBy v_sought v_soughtAt v_foundMany v_foundOrder v_isKept v_imageRows v_imageColumns v_imageFolded v_imageWronged v_bodies v_ran v_ownKind v_ownNumber v_limit v_changeWas v_changeIs v_shapeRows v_shapeColumns v_row v_column v_below v_face v_worn v_lastBend v_tape v_text v_names v_bends v_high v_to v_pileSize v_planLine v_planWay v_way1 v_bestWay v_order1 v_placeIn v_bodyKind v_trace v_shelf v_many v_items v_carried) (some (.int r))) (hE : 2 ≤ dgo) (hd : dgo + 4 ≤ d) (C0 : mm_Cx p s m args meth c RX9 cX9_both 3 (some .int) D (mm_T cI cL cS cH) A) (hA : ∀ q, s.heap.size ≤ q → A q) {v_keptMany : Int32} {v_done : Int32} {v_rowsOf : Int32} {v_columnsOf : Int32} {v_folded : Int32} {v_wronged : Int32} {v_tapeMany : Int32} {v_textMany : Int32} {v_bentMany : Int32} {v_bentWrong : Int32} {v_moreWorn : Int32} {v_planned : Int32} {v_allWrong : Int32} {v_allWorn : Int32} {v_z : Int32} {v_wishedField : Int32} {v_isFound : Bool} {v_bestWrong : Int32} {v_bestWorn : Int32} {v_bestMany : Int32} {v_soughtBy : Int32} {v_sought : Int32} {v_soughtAt : Int32} {v_foundMany : Int32} {v_foundOrder : Int32} {v_isKept : Bool} {v_imageRows : Int32} {v_imageColumns : Int32} {v_imageFolded : Int32} {v_imageWronged : Int32} {v_bodies : Int32} {v_ran : Int32} {v_ownKind : Int32} {v_ownNumber : Int32} {v_limit : List Int32} {v_changeWas : List Int32} {v_changeIs : List Int32} {v_shapeRows : List Int32} {v_shapeColumns : List Int32} {v_row : List Int32} {v_column : List Int32} {v_below : List Int32} {v_face : List Int32} {v_worn : List Int32} {v_lastBend : List Int32} {v_bends : List Int32} {v_high : List Int32} {v_to : List Int32} {v_pileSize : List Int32} {v_planLine : List Int32} {v_planWay : List Int32} {v_way1 : List Int32} {v_bestWay : List Int32} {v_order1 : List Int32} {v_placeIn : List Int32} {v_bodyKind : List Int32} {v_trace : List Int32} {v_shelf : List Int32} {v_many : List Int32} {v_items : List Int64} {v_carried : List Int64} {r : Int32} {w_at : Int32} {w_fault : Int32} {w_opened : Int32} (N : Nat)  : ∀ (n : Nat), ∀ (x1 : Int32) (v_base : Int32) (v_at : Int32) (v_ends : Int32) (v_fault : Int32) (v_opened : Int32) (v_tape : List Int32) (v_text : List Int32) (v_names : List Int32) (H : Heap) (locs : List Loc) (ls : Array Slot), fX9_both_5 N go n x1 v_base v_at v_ends v_fault v_opened v_tape v_text v_names = some (r, w_at, w_fault, w_opened) → va_P D mm_cl (wd_X9 cI cL cS cH a v_keptMany v_done v_rowsOf v_columnsOf v_folded v_wronged v_tapeMany v_textMany v_base v_at v_ends v_fault v_opened v_bentMany v_bentWrong v_moreWorn v_planned v_allWrong v_allWorn v_z v_wishedField v_isFound v_bestWrong v_bestWorn v_bestMany v_soughtBy v_sought v_soughtAt v_foundMany v_foundOrder v_isKept v_imageRows v_imageColumns v_imageFolded v_imageWronged v_bodies v_ran v_ownKind v_ownNumber v_limit v_changeWas v_changeIs v_shapeRows v_shapeColumns v_row v_column v_below v_face v_worn v_lastBend v_tape v_text v_names v_bends v_high v_to v_pileSize v_planLine v_planWay v_way1 v_bestWay v_order1 v_placeIn v_bodyKind v_trace v_shelf v_many v_items v_carried) H → va_D A (wd_X9 cI cL cS cH a v_keptMany v_done v_rowsOf v_columnsOf v_folded v_wronged v_tapeMany v_textMany v_base v_at v_ends v_fault v_opened v_bentMany v_bentWrong v_moreWorn v_planned v_allWrong v_allWorn v_z v_wishedField v_isFound v_bestWrong v_bestWorn v_bestMany v_soughtBy v_sought v_soughtAt v_foundMany v_foundOrder v_isKept v_imageRows v_imageColumns v_imageFolded v_imageWronged v_bodies v_ran v_ownKind v_ownNumber v_limit v_changeWas v_changeIs v_shapeRows v_shapeColumns v_row v_column v_below v_face v_worn v_lastBend v_tape v_text v_names v_bends v_high v_to v_pileSize v_planLine v_planWay v_way1 v_bestWay v_order1 v_placeIn v_bodyKind v_trace v_shelf v_many v_items v_carried) → va_S A s.heap H locs → lv_has ls 3 [(0, .ref (a 0)), (1, .int x1)] → W p l e (mm_rr d) s m args below meth c H locs 0 0 (mm_Z below D A (wd_X9 cI cL cS cH a v_keptMany v_done v_rowsOf v_columnsOf v_folded v_wronged v_tapeMany v_textMany v_base w_at v_ends w_fault w_opened v_bentMany v_bentWrong v_moreWorn v_planned v_allWrong v_allWorn v_z v_wishedField v_isFound v_bestWrong v_bestWorn v_bestMany v_soughtBy v_sought v_soughtAt v_foundMany v_foundOrder v_isKept v_imageRows v_imageColumns v_imageFolded v_imageWronged v_bodies v_ran v_ownKind v_ownNumber v_limit v_changeWas v_changeIs v_shapeRows v_shapeColumns v_row v_column v_below v_face v_worn v_lastBend v_tape v_text v_names v_bends v_high v_to v_pileSize v_planLine v_planWay v_way1 v_bestWay v_order1 v_placeIn v_bodyKind v_trace v_shelf v_many v_items v_carried) (some (.int r)) args s) (F0 m 5 ls []) := by
  obtain ⟨hx, hb, hml, hown, hts, hr, hlocks, hK, hSt⟩ := id C0
  intro n
  induction n with
  | zero =>
    intro x1 v_base v_at v_ends v_fault v_opened v_tape v_text v_names H locs ls hf
    cases (show none = some _ from hf)
  | succ n ih =>
    intro x1 v_base v_at v_ends v_fault v_opened v_tape v_text v_names H locs ls hf hP hD hS hl
    unfold fX9_both_5 at hf
    refine lv_aload_n hx hb dX9_both_5 rfl (lv_at hl 0 rfl) ?_
    refine lv_bipush (v := 38) hx hb dX9_both_6 (by decide) ?_
    obtain ⟨r_6, w_7, hc_8, hf⟩ := mm_bd2s hf
    refine mm_callVF (q0 := 0) (ci := 9) (rest := []) C0 lk_X9_168 (ctX9_takes (a := a) (d := d - 1) (by omega) hc_8) (by omega) rfl hl.1 rfl (mm_cat rfl) dX9_both_8 hP hD hA hS rfl rfl (fun H locs hP hD hS => ?_)
    refine W.eq (g2 := F0 m 11 ls [.int (mm_b r_6)]) rfl ?_
    refine lv_if_eq (tgt := 36) hx hb dX9_both_11 (by decide) (fun c_9 => ?_) (fun c_9 => ?_)
    · have hf := mm_ip hf (mm_b0 c_9)
      refine lv_iload_n hx hb dX9_both_36 rfl (lv_at hl 1 rfl) ?_
      apply mm_sub4 hf
      exact mm_iret C0 hP hD hS dX9_both_37
    · have hf := mm_in hf (mm_b1 c_9)
      refine lv_aload_n hx hb dX9_both_14 rfl (lv_at hl 0 rfl) ?_
      obtain ⟨r_10, w_11, w_12, w_13, hc_14, hf⟩ := mm_bd4s hf
      refine mm_callVF (q0 := 0) (ci := 9) (rest := []) C0 lk_X9_172 (ctX9_compared (a := a) (d := d - 1) hgo hE (by omega) hc_14) (by omega) rfl hl.1 rfl (mm_cat rfl) dX9_both_15 hP hD hA hS rfl rfl (fun H locs hP hD hS => ?_)
      refine W.eq (g2 := F0 m 18 ls [.int r_10]) rfl ?_
      refine lv_istore_n (lv' := [(2, .int r_10), (0, .ref (a 0)), (1, .int x1)]) hx hb dX9_both_18 rfl hl (by decide) rfl (fun ls hl => ?_)
      refine lv_iload_n hx hb dX9_both_19 rfl (lv_at hl 2 rfl) ?_
      refine lv_if_eq (tgt := 31) hx hb dX9_both_20 (by decide) (fun c_15 => ?_) (fun c_15 => ?_)
      · have hf := mm_ip hf c_15
        exact tX9_both_31 hgo hE hd C0 hA N ih _ _ _ _ _ _ _ _ H locs ls hf hP hD hS (lv_sub hl [1] rfl)
      · have hf := mm_in hf c_15
        refine lv_iload_n hx hb dX9_both_23 rfl (lv_at hl 0 rfl) ?_
        refine lv_if_eq (tgt := 31) hx hb dX9_both_24 (by decide) (fun c_16 => ?_) (fun c_16 => ?_)
        · have hf := mm_ip hf c_16
          exact tX9_both_31 hgo hE hd C0 hA N ih _ _ _ _ _ _ _ _ H locs ls hf hP hD hS (lv_sub hl [1] rfl)
        · have hf := mm_in hf c_16
          refine lv_iconst (v := 1) hx hb dX9_both_27 (by decide) ?_
          refine lv_goto (tgt := 32) hx hb dX9_both_28 (by decide) ?_
          exact tX9_both_32 hgo hE hd C0 hA N ih _ _ _ _ _ _ _ _ _ H locs ls hf hP hD hS (lv_sub hl [1] rfl)

def fX9_both (N : Nat) (go : Int32 → Int32 → Int32 → Int32 → Int32 → List Int32 → List Int32 → List Int32 → Option (Int32 × Int32 × Int32 × Int32)) (v_base : Int32) (v_at : Int32) (v_ends : Int32) (v_fault : Int32) (v_opened : Int32) (v_tape : List Int32) (v_text : List Int32) (v_names : List Int32) : Option (Int32 × Int32 × Int32 × Int32) :=
    mm_bd4 (fX9_compared N go v_base v_at v_ends v_fault v_opened v_tape v_text v_names) (fun (r_1 : Int32) (w_2 : Int32) (w_3 : Int32) (w_4 : Int32) =>
    fX9_both_5 N go N r_1 v_base w_2 v_ends w_3 w_4 v_tape v_text v_names)

set_option maxHeartbeats 4000000 in
set_option maxRecDepth 100000 in
theorem ctX9_both {l : Launch} {D : va_G} {cI cL cS cH : ClassId} {a : Nat → Nat}  {v_keptMany : Int32} {v_done : Int32} {v_rowsOf : Int32} {v_columnsOf : Int32} {v_folded : Int32} {v_wronged : Int32} {v_tapeMany : Int32} {v_textMany : Int32} {v_base : Int32} {v_at : Int32} {v_ends : Int32} {v_fault : Int32} {v_opened : Int32} {v_bentMany : Int32} {v_bentWrong : Int32} {v_moreWorn : Int32} {v_planned : Int32} {v_allWrong : Int32} {v_allWorn : Int32} {v_z : Int32} {v_wishedField : Int32} {v_isFound : Bool} {v_bestWrong : Int32} {v_bestWorn : Int32} {v_bestMany : Int32} {v_soughtBy : Int32} {v_sought : Int32} {v_soughtAt : Int32} {v_foundMany : Int32} {v_foundOrder : Int32} {v_isKept : Bool} {v_imageRows : Int32} {v_imageColumns : Int32} {v_imageFolded : Int32} {v_imageWronged : Int32} {v_bodies : Int32} {v_ran : Int32} {v_ownKind : Int32} {v_ownNumber : Int32} {v_limit : List Int32} {v_changeWas : List Int32} {v_changeIs : List Int32} {v_shapeRows : List Int32} {v_shapeColumns : List Int32} {v_row : List Int32} {v_column : List Int32} {v_below : List Int32} {v_face : List Int32} {v_worn : List Int32} {v_lastBend : List Int32} {v_tape : List Int32} {v_text : List Int32} {v_names : List Int32} {v_bends : List Int32} {v_high : List Int32} {v_to : List Int32} {v_pileSize : List Int32} {v_planLine : List Int32} {v_planWay : List Int32} {v_way1 : List Int32} {v_bestWay : List Int32} {v_order1 : List Int32} {v_placeIn : List Int32} {v_bodyKind : List Int32} {v_trace : List Int32} {v_shelf : List Int32} {v_many : List Int32} {v_items : List Int64} {v_carried : List Int64} {r : Int32} {w_at : Int32} {w_fault : Int32} {w_opened : Int32} {N d : Nat} {go : Int32 → Int32 → Int32 → Int32 → Int32 → List Int32 → List Int32 → List Int32 → Option (Int32 × Int32 × Int32 × Int32)} {dgo : Nat} (hgo : ∀ (a : Nat → Nat) (v_keptMany : Int32) (v_done : Int32) (v_rowsOf : Int32) (v_columnsOf : Int32) (v_folded : Int32) (v_wronged : Int32) (v_tapeMany : Int32) (v_textMany : Int32) (v_base : Int32) (v_at : Int32) (v_ends : Int32) (v_fault : Int32) (v_opened : Int32) (v_bentMany : Int32) (v_bentWrong : Int32) (v_moreWorn : Int32) (v_planned : Int32) (v_allWrong : Int32) (v_allWorn : Int32) (v_z : Int32) (v_wishedField : Int32) (v_isFound : Bool) (v_bestWrong : Int32) (v_bestWorn : Int32) (v_bestMany : Int32) (v_soughtBy : Int32) (v_sought : Int32) (v_soughtAt : Int32) (v_foundMany : Int32) (v_foundOrder : Int32) (v_isKept : Bool) (v_imageRows : Int32) (v_imageColumns : Int32) (v_imageFolded : Int32) (v_imageWronged : Int32) (v_bodies : Int32) (v_ran : Int32) (v_ownKind : Int32) (v_ownNumber : Int32) (v_limit : List Int32) (v_changeWas : List Int32) (v_changeIs : List Int32) (v_shapeRows : List Int32) (v_shapeColumns : List Int32) (v_row : List Int32) (v_column : List Int32) (v_below : List Int32) (v_face : List Int32) (v_worn : List Int32) (v_lastBend : List Int32) (v_tape : List Int32) (v_text : List Int32) (v_names : List Int32) (v_bends : List Int32) (v_high : List Int32) (v_to : List Int32) (v_pileSize : List Int32) (v_planLine : List Int32) (v_planWay : List Int32) (v_way1 : List Int32) (v_bestWay : List Int32) (v_order1 : List Int32) (v_placeIn : List Int32) (v_bodyKind : List Int32) (v_trace : List Int32) (v_shelf : List Int32) (v_many : List Int32) (v_items : List Int64) (v_carried : List Int64) (r : Int32) (w_at : Int32) (w_fault : Int32) (w_opened : Int32), go v_base v_at v_ends v_fault v_opened v_tape v_text v_names = some (r, w_at, w_fault, w_opened) → mm_Ct l yX9_one cX9_one 5 (some .int) dgo D (mm_T cI cL cS cH) [.ref (a 0)] (wd_X9 cI cL cS cH a v_keptMany v_done v_rowsOf v_columnsOf v_folded v_wronged v_tapeMany v_textMany v_base v_at v_ends v_fault v_opened v_bentMany v_bentWrong v_moreWorn v_planned v_allWrong v_allWorn v_z v_wishedField v_isFound v_bestWrong v_bestWorn v_bestMany v_soughtBy v_sought v_soughtAt v_foundMany v_foundOrder v_isKept v_imageRows v_imageColumns v_imageFolded v_imageWronged v_bodies v_ran v_ownKind v_ownNumber v_limit v_changeWas v_changeIs v_shapeRows v_shapeColumns v_row v_column v_below v_face v_worn v_lastBend v_tape v_text v_names v_bends v_high v_to v_pileSize v_planLine v_planWay v_way1 v_bestWay v_order1 v_placeIn v_bodyKind v_trace v_shelf v_many v_items v_carried) (wd_X9 cI cL cS cH a v_keptMany v_done v_rowsOf v_columnsOf v_folded v_wronged v_tapeMany v_textMany v_base w_at v_ends w_fault w_opened v_bentMany v_bentWrong v_moreWorn v_planned v_allWrong v_allWorn v_z v_wishedField v_isFound v_bestWrong v_bestWorn v_bestMany v_soughtBy v_sought v_soughtAt v_foundMany v_foundOrder v_isKept v_imageRows v_imageColumns v_imageFolded v_imageWronged v_bodies v_ran v_ownKind v_ownNumber v_limit v_changeWas v_changeIs v_shapeRows v_shapeColumns v_row v_column v_below v_face v_worn v_lastBend v_tape v_text v_names v_bends v_high v_to v_pileSize v_planLine v_planWay v_way1 v_bestWay v_order1 v_placeIn v_bodyKind v_trace v_shelf v_many v_items v_carried) (some (.int r))) (hE : 2 ≤ dgo) (hd : dgo + 4 ≤ d) (hf : fX9_both N go v_base v_at v_ends v_fault v_opened v_tape v_text v_names = some (r, w_at, w_fault, w_opened)) : mm_Ct l yX9_both cX9_both 3 (some .int) d D (mm_T cI cL cS cH) [.ref (a 0)] (wd_X9 cI cL cS cH a v_keptMany v_done v_rowsOf v_columnsOf v_folded v_wronged v_tapeMany v_textMany v_base v_at v_ends v_fault v_opened v_bentMany v_bentWrong v_moreWorn v_planned v_allWrong v_allWorn v_z v_wishedField v_isFound v_bestWrong v_bestWorn v_bestMany v_soughtBy v_sought v_soughtAt v_foundMany v_foundOrder v_isKept v_imageRows v_imageColumns v_imageFolded v_imageWronged v_bodies v_ran v_ownKind v_ownNumber v_limit v_changeWas v_changeIs v_shapeRows v_shapeColumns v_row v_column v_below v_face v_worn v_lastBend v_tape v_text v_names v_bends v_high v_to v_pileSize v_planLine v_planWay v_way1 v_bestWay v_order1 v_placeIn v_bodyKind v_trace v_shelf v_many v_items v_carried) (wd_X9 cI cL cS cH a v_keptMany v_done v_rowsOf v_columnsOf v_folded v_wronged v_tapeMany v_textMany v_base w_at v_ends w_fault w_opened v_bentMany v_bentWrong v_moreWorn v_planned v_allWrong v_allWorn v_z v_wishedField v_isFound v_bestWrong v_bestWorn v_bestMany v_soughtBy v_sought v_soughtAt v_foundMany v_foundOrder v_isKept v_imageRows v_imageColumns v_imageFolded v_imageWronged v_bodies v_ran v_ownKind v_ownNumber v_limit v_changeWas v_changeIs v_shapeRows v_shapeColumns v_row v_column v_below v_face v_worn v_lastBend v_tape v_text v_names v_bends v_high v_to v_pileSize v_planLine v_planWay v_way1 v_bestWay v_order1 v_placeIn v_bodyKind v_trace v_shelf v_many v_items v_carried) (some (.int r)) := by
  refine mm_of (by decide) (Nat.le_of_ble_eq_true rfl) ?_
  intro p e s m args below meth c A H locs ls C0 hP hD hA hS hl
  have C0 : mm_Cx p s m args meth c RX9 cX9_both 3 (some .int) D (mm_T cI cL cS cH) A := C0
  obtain ⟨hx, hb, hml, hown, hts, hr, hlocks, hK, hSt⟩ := id C0
  have hl : lv_has ls 3 [(0, .ref (a 0))] := hl
  unfold fX9_both at hf
  refine lv_aload_n hx hb dX9_both_0 rfl (lv_at hl 0 rfl) ?_
  obtain ⟨r_1, w_2, w_3, w_4, hc_5, hf⟩ := mm_bd4s hf
  refine mm_callVF (q0 := 0) (ci := 9) (rest := []) C0 lk_X9_172 (ctX9_compared (a := a) (d := d - 1) hgo hE (by omega) hc_5) (by omega) rfl hl.1 rfl (mm_cat rfl) dX9_both_1 hP hD hA hS rfl rfl (fun H locs hP hD hS => ?_)
  refine W.eq (g2 := F0 m 4 ls [.int r_1]) rfl ?_
  refine lv_istore_n (lv' := [(1, .int r_1), (0, .ref (a 0))]) hx hb dX9_both_4 rfl hl (by decide) rfl (fun ls hl => ?_)
  exact tX9_both_5 hgo hE hd C0 hA N  N _ _ _ _ _ _ _ _ _ H locs ls hf hP hD hS (lv_sub hl [1, 0] rfl)
end
section
/-! reference: X9_either, X9_one -/
theorem nb_dX9_either_0 : bls_w cX9_either [(0, [42]), (1, [182, 0, 165]), (4, [60]), (5, [42]), (6, [16, 124]), (8, [182, 0, 168]), (11, [153, 0, 25]), (14, [42]), (15, [182, 0, 165]), (18, [61]), (19, [27]), (20, [154, 0, 7])] := bls_of (by decide +kernel)
theorem dX9_either_0 : decode cX9_either 0 = .ok (.aload_n 0, 1) := op_42 nb_dX9_either_0.1
set_option maxRecDepth 100000 in
theorem dX9_either_1 : decode cX9_either 1 = .ok (.invokevirtual 165, 3) := (op_182 nb_dX9_either_0.2.1).trans rfl
theorem dX9_either_4 : decode cX9_either 4 = .ok (.istore_n 1, 1) := op_60 nb_dX9_either_0.2.2.1
theorem dX9_either_5 : decode cX9_either 5 = .ok (.aload_n 0, 1) := op_42 nb_dX9_either_0.2.2.2.1
set_option maxRecDepth 100000 in
theorem dX9_either_6 : decode cX9_either 6 = .ok (.bipush 124, 2) := (op_16 nb_dX9_either_0.2.2.2.2.1).trans rfl
set_option maxRecDepth 100000 in
theorem dX9_either_8 : decode cX9_either 8 = .ok (.invokevirtual 168, 3) := (op_182 nb_dX9_either_0.2.2.2.2.2.1).trans rfl
set_option maxRecDepth 100000 in
theorem dX9_either_11 : decode cX9_either 11 = .ok (.ifCond .eq 25, 3) := (op_153 nb_dX9_either_0.2.2.2.2.2.2.1).trans rfl
theorem dX9_either_14 : decode cX9_either 14 = .ok (.aload_n 0, 1) := op_42 nb_dX9_either_0.2.2.2.2.2.2.2.1
set_option maxRecDepth 100000 in
theorem dX9_either_15 : decode cX9_either 15 = .ok (.invokevirtual 165, 3) := (op_182 nb_dX9_either_0.2.2.2.2.2.2.2.2.1).trans rfl
theorem dX9_either_18 : decode cX9_either 18 = .ok (.istore_n 2, 1) := op_61 nb_dX9_either_0.2.2.2.2.2.2.2.2.2.1
theorem dX9_either_19 : decode cX9_either 19 = .ok (.iload_n 1, 1) := op_27 nb_dX9_either_0.2.2.2.2.2.2.2.2.2.2.1
set_option maxRecDepth 100000 in
theorem dX9_either_20 : decode cX9_either 20 = .ok (.ifCond .ne 7, 3) := (op_154 nb_dX9_either_0.2.2.2.2.2.2.2.2.2.2.2.1).trans rfl
theorem nb_dX9_either_23 : bls_w cX9_either [(23, [28]), (24, [153, 0, 7]), (27, [4]), (28, [167, 0, 4]), (31, [3]), (32, [60]), (33, [167, 255, 228]), (36, [27]), (37, [172])] := bls_of (by decide +kernel)
theorem dX9_either_23 : decode cX9_either 23 = .ok (.iload_n 2, 1) := op_28 nb_dX9_either_23.1
set_option maxRecDepth 100000 in
theorem dX9_either_24 : decode cX9_either 24 = .ok (.ifCond .eq 7, 3) := (op_153 nb_dX9_either_23.2.1).trans rfl
theorem dX9_either_27 : decode cX9_either 27 = .ok (.iconst 1, 1) := op_4 nb_dX9_either_23.2.2.1
set_option maxRecDepth 100000 in
theorem dX9_either_28 : decode cX9_either 28 = .ok (.goto 4, 3) := (op_167 nb_dX9_either_23.2.2.2.1).trans rfl
theorem dX9_either_31 : decode cX9_either 31 = .ok (.iconst 0, 1) := op_3 nb_dX9_either_23.2.2.2.2.1
theorem dX9_either_32 : decode cX9_either 32 = .ok (.istore_n 1, 1) := op_60 nb_dX9_either_23.2.2.2.2.2.1
set_option maxRecDepth 100000 in
theorem dX9_either_33 : decode cX9_either 33 = .ok (.goto (-28), 3) := (op_167 nb_dX9_either_23.2.2.2.2.2.2.1).trans rfl
theorem dX9_either_36 : decode cX9_either 36 = .ok (.iload_n 1, 1) := op_27 nb_dX9_either_23.2.2.2.2.2.2.2.1
theorem dX9_either_37 : decode cX9_either 37 = .ok (.ireturn, 1) := op_172 nb_dX9_either_23.2.2.2.2.2.2.2.2.1
def fX9_either_32 (N : Nat) (go : Int32 → Int32 → Int32 → Int32 → Int32 → List Int32 → List Int32 → List Int32 → Option (Int32 × Int32 × Int32 × Int32)) (k_5 : Int32 → Int32 → Int32 → Int32 → Int32 → Int32 → List Int32 → List Int32 → List Int32 → Option (Int32 × Int32 × Int32 × Int32)) (s0 : Int32) (v_base : Int32) (v_at : Int32) (v_ends : Int32) (v_fault : Int32) (v_opened : Int32) (v_tape : List Int32) (v_text : List Int32) (v_names : List Int32) : Option (Int32 × Int32 × Int32 × Int32) :=
    k_5 s0 v_base v_at v_ends v_fault v_opened v_tape v_text v_names

set_option maxHeartbeats 4000000 in
set_option maxRecDepth 100000 in
theorem tX9_either_32 {p : Program} {l : Launch} {e : Env} {s : State} {m : MethodId} {args : Array Value} {below : List Frame} {meth : Method} {c : Code} {D : va_G} {cI cL cS cH : ClassId} {A : Nat → Prop} {d : Nat} {a : Nat → Nat} {go : Int32 → Int32 → Int32 → Int32 → Int32 → List Int32 → List Int32 → List Int32 → Option (Int32 × Int32 × Int32 × Int32)} {dgo : Nat} (hgo : ∀ (a : Nat → Nat) (v_keptMany : Int32) (v_done : Int32) (v_rowsOf : Int32) (v_columnsOf : Int32) (v_folded : Int32) (v_wronged : Int32) (v_tapeMany : Int32) (v_textMany : Int32) (v_base : Int32) (v_at : Int32) (v_ends : Int32) (v_fault : Int32) (v_opened : Int32) (v_bentMany : Int32) (v_bentWrong : Int32) (v_moreWorn : Int32) (v_planned : Int32) (v_allWrong : Int32) (v_allWorn : Int32) (v_z : Int32) (v_wishedField : Int32) (v_isFound : Bool) (v_bestWrong : Int32) (v_bestWorn : Int32) (v_bestMany : Int32) (v_soughtBy : Int32) (v_sought : Int32) (v_soughtAt : Int32) (v_foundMany : Int32) (v_foundOrder : Int32) (v_isKept : Bool) (v_imageRows : Int32) (v_imageColumns : Int32) (v_imageFolded : Int32) (v_imageWronged : Int32) (v_bodies : Int32) (v_ran : Int32) (v_ownKind : Int32) (v_ownNumber : Int32) (v_limit : List Int32) (v_changeWas : List Int32) (v_changeIs : List Int32) (v_shapeRows : List Int32) (v_shapeColumns : List Int32) (v_row : List Int32) (v_column : List Int32) (v_below : List Int32) (v_face : List Int32) (v_worn : List Int32) (v_lastBend : List Int32) (v_tape : List Int32) (v_text : List Int32) (v_names : List Int32) (v_bends : List Int32) (v_high : List Int32) (v_to : List Int32) (v_pileSize : List Int32) (v_planLine : List Int32) (v_planWay : List Int32) (v_way1 : List Int32) (v_bestWay : List Int32) (v_order1 : List Int32) (v_placeIn : List Int32) (v_bodyKind : List Int32) (v_trace : List Int32) (v_shelf : List Int32) (v_many : List Int32) (v_items : List Int64) (v_carried : List Int64) (r : Int32) (w_at : Int32) (w_fault : Int32) (w_opened : Int32), go v_base v_at v_ends v_fault v_opened v_tape v_text v_names = some (r, w_at, w_fault, w_opened) → mm_Ct l yX9_one cX9_one 5 (some .int) dgo D (mm_T cI cL cS cH) [.ref (a 0)] (wd_X9 cI cL cS cH a v_keptMany v_done v_rowsOf v_columnsOf v_folded v_wronged v_tapeMany v_textMany v_base v_at v_ends v_fault v_opened v_bentMany v_bentWrong v_moreWorn v_planned v_allWrong v_allWorn v_z v_wishedField v_isFound v_bestWrong v_bestWorn v_bestMany v_soughtBy v_sought v_soughtAt v_foundMany v_foundOrder v_isKept v_imageRows v_imageColumns v_imageFolded v_imageWronged v_bodies v_ran v_ownKind v_ownNumber v_limit v_changeWas v_changeIs v_shapeRows v_shapeColumns v_row v_column v_below v_face v_worn v_lastBend v_tape v_text v_names v_bends v_high v_to v_pileSize v_planLine v_planWay v_way1 v_bestWay v_order1 v_placeIn v_bodyKind v_trace v_shelf v_many v_items v_carried) (wd_X9 cI cL cS cH a v_keptMany v_done v_rowsOf v_columnsOf v_folded v_wronged v_tapeMany v_textMany v_base w_at v_ends w_fault w_opened v_bentMany v_bentWrong v_moreWorn v_planned v_allWrong v_allWorn v_z v_wishedField v_isFound v_bestWrong v_bestWorn v_bestMany v_soughtBy v_sought v_soughtAt v_foundMany v_foundOrder v_isKept v_imageRows v_imageColumns v_imageFolded v_imageWronged v_bodies v_ran v_ownKind v_ownNumber v_limit v_changeWas v_changeIs v_shapeRows v_shapeColumns v_row v_column v_below v_face v_worn v_lastBend v_tape v_text v_names v_bends v_high v_to v_pileSize v_planLine v_planWay v_way1 v_bestWay v_order1 v_placeIn v_bodyKind v_trace v_shelf v_many v_items v_carried) (some (.int r))) (hE : 2 ≤ dgo) (hd : dgo + 5 ≤ d) (C0 : mm_Cx p s m args meth c RX9 cX9_either 3 (some .int) D (mm_T cI cL cS cH) A) (hA : ∀ q, s.heap.size ≤ q → A q) {v_keptMany : Int32} {v_done : Int32} {v_rowsOf : Int32} {v_columnsOf : Int32} {v_folded : Int32} {v_wronged : Int32} {v_tapeMany : Int32} {v_textMany : Int32} {v_bentMany : Int32} {v_bentWrong : Int32} {v_moreWorn : Int32} {v_planned : Int32} {v_allWrong : Int32} {v_allWorn : Int32} {v_z : Int32} {v_wishedField : Int32} {v_isFound : Bool} {v_bestWrong : Int32} {v_bestWorn : Int32} {v_bestMany : Int32} {v_soughtBy : Int32} {v_sought : Int32} {v_soughtAt : Int32} {v_foundMany : Int32} {v_foundOrder : Int32} {v_isKept : Bool} {v_imageRows : Int32} {v_imageColumns : Int32} {v_imageFolded : Int32} {v_imageWronged : Int32} {v_bodies : Int32} {v_ran : Int32} {v_ownKind : Int32} {v_ownNumber : Int32} {v_limit : List Int32} {v_changeWas : List Int32} {v_changeIs : List Int32} {v_shapeRows : List Int32} {v_shapeColumns : List Int32} {v_row : List Int32} {v_column : List Int32} {v_below : List Int32} {v_face : List Int32} {v_worn : List Int32} {v_lastBend : List Int32} {v_bends : List Int32} {v_high : List Int32} {v_to : List Int32} {v_pileSize : List Int32} {v_planLine : List Int32} {v_planWay : List Int32} {v_way1 : List Int32} {v_bestWay : List Int32} {v_order1 : List Int32} {v_placeIn : List Int32} {v_bodyKind : List Int32} {v_trace : List Int32} {v_shelf : List Int32} {v_many : List Int32} {v_items : List Int64} {v_carried : List Int64} {r : Int32} {w_at : Int32} {w_fault : Int32} {w_opened : Int32} (N : Nat) {k_5 : Int32 → Int32 → Int32 → Int32 → Int32 → Int32 → List Int32 → List Int32 → List Int32 → Option (Int32 × Int32 × Int32 × Int32)} (hk_5 : ∀ (x1 : Int32) (v_base : Int32) (v_at : Int32) (v_ends : Int32) (v_fault : Int32) (v_opened : Int32) (v_tape : List Int32) (v_text : List Int32) (v_names : List Int32) (H : Heap) (locs : List Loc) (ls : Array Slot), k_5 x1 v_base v_at v_ends v_fault v_opened v_tape v_text v_names = some (r, w_at, w_fault, w_opened) → va_P D mm_cl (wd_X9 cI cL cS cH a v_keptMany v_done v_rowsOf v_columnsOf v_folded v_wronged v_tapeMany v_textMany v_base v_at v_ends v_fault v_opened v_bentMany v_bentWrong v_moreWorn v_planned v_allWrong v_allWorn v_z v_wishedField v_isFound v_bestWrong v_bestWorn v_bestMany v_soughtBy v_sought v_soughtAt v_foundMany v_foundOrder v_isKept v_imageRows v_imageColumns v_imageFolded v_imageWronged v_bodies v_ran v_ownKind v_ownNumber v_limit v_changeWas v_changeIs v_shapeRows v_shapeColumns v_row v_column v_below v_face v_worn v_lastBend v_tape v_text v_names v_bends v_high v_to v_pileSize v_planLine v_planWay v_way1 v_bestWay v_order1 v_placeIn v_bodyKind v_trace v_shelf v_many v_items v_carried) H → va_D A (wd_X9 cI cL cS cH a v_keptMany v_done v_rowsOf v_columnsOf v_folded v_wronged v_tapeMany v_textMany v_base v_at v_ends v_fault v_opened v_bentMany v_bentWrong v_moreWorn v_planned v_allWrong v_allWorn v_z v_wishedField v_isFound v_bestWrong v_bestWorn v_bestMany v_soughtBy v_sought v_soughtAt v_foundMany v_foundOrder v_isKept v_imageRows v_imageColumns v_imageFolded v_imageWronged v_bodies v_ran v_ownKind v_ownNumber v_limit v_changeWas v_changeIs v_shapeRows v_shapeColumns v_row v_column v_below v_face v_worn v_lastBend v_tape v_text v_names v_bends v_high v_to v_pileSize v_planLine v_planWay v_way1 v_bestWay v_order1 v_placeIn v_bodyKind v_trace v_shelf v_many v_items v_carried) → va_S A s.heap H locs → lv_has ls 3 [(0, .ref (a 0)), (1, .int x1)] → W p l e (mm_rr d) s m args below meth c H locs 0 0 (mm_Z below D A (wd_X9 cI cL cS cH a v_keptMany v_done v_rowsOf v_columnsOf v_folded v_wronged v_tapeMany v_textMany v_base w_at v_ends w_fault w_opened v_bentMany v_bentWrong v_moreWorn v_planned v_allWrong v_allWorn v_z v_wishedField v_isFound v_bestWrong v_bestWorn v_bestMany v_soughtBy v_sought v_soughtAt v_foundMany v_foundOrder v_isKept v_imageRows v_imageColumns v_imageFolded v_imageWronged v_bodies v_ran v_ownKind v_ownNumber v_limit v_changeWas v_changeIs v_shapeRows v_shapeColumns v_row v_column v_below v_face v_worn v_lastBend v_tape v_text v_names v_bends v_high v_to v_pileSize v_planLine v_planWay v_way1 v_bestWay v_order1 v_placeIn v_bodyKind v_trace v_shelf v_many v_items v_carried) (some (.int r)) args s) (F0 m 5 ls [])) : ∀ (s0 : Int32) (v_base : Int32) (v_at : Int32) (v_ends : Int32) (v_fault : Int32) (v_opened : Int32) (v_tape : List Int32) (v_text : List Int32) (v_names : List Int32) (H : Heap) (locs : List Loc) (ls : Array Slot), fX9_either_32 N go k_5 s0 v_base v_at v_ends v_fault v_opened v_tape v_text v_names = some (r, w_at, w_fault, w_opened) → va_P D mm_cl (wd_X9 cI cL cS cH a v_keptMany v_done v_rowsOf v_columnsOf v_folded v_wronged v_tapeMany v_textMany v_base v_at v_ends v_fault v_opened v_bentMany v_bentWrong v_moreWorn v_planned v_allWrong v_allWorn v_z v_wishedField v_isFound v_bestWrong v_bestWorn v_bestMany v_soughtBy v_sought v_soughtAt v_foundMany v_foundOrder v_isKept v_imageRows v_imageColumns v_imageFolded v_imageWronged v_bodies v_ran v_ownKind v_ownNumber v_limit v_changeWas v_changeIs v_shapeRows v_shapeColumns v_row v_column v_below v_face v_worn v_lastBend v_tape v_text v_names v_bends v_high v_to v_pileSize v_planLine v_planWay v_way1 v_bestWay v_order1 v_placeIn v_bodyKind v_trace v_shelf v_many v_items v_carried) H → va_D A (wd_X9 cI cL cS cH a v_keptMany v_done v_rowsOf v_columnsOf v_folded v_wronged v_tapeMany v_textMany v_base v_at v_ends v_fault v_opened v_bentMany v_bentWrong v_moreWorn v_planned v_allWrong v_allWorn v_z v_wishedField v_isFound v_bestWrong v_bestWorn v_bestMany v_soughtBy v_sought v_soughtAt v_foundMany v_foundOrder v_isKept v_imageRows v_imageColumns v_imageFolded v_imageWronged v_bodies v_ran v_ownKind v_ownNumber v_limit v_changeWas v_changeIs v_shapeRows v_shapeColumns v_row v_column v_below v_face v_worn v_lastBend v_tape v_text v_names v_bends v_high v_to v_pileSize v_planLine v_planWay v_way1 v_bestWay v_order1 v_placeIn v_bodyKind v_trace v_shelf v_many v_items v_carried) → va_S A s.heap H locs → lv_has ls 3 [(0, .ref (a 0))] → W p l e (mm_rr d) s m args below meth c H locs 0 0 (mm_Z below D A (wd_X9 cI cL cS cH a v_keptMany v_done v_rowsOf v_columnsOf v_folded v_wronged v_tapeMany v_textMany v_base w_at v_ends w_fault w_opened v_bentMany v_bentWrong v_moreWorn v_planned v_allWrong v_allWorn v_z v_wishedField v_isFound v_bestWrong v_bestWorn v_bestMany v_soughtBy v_sought v_soughtAt v_foundMany v_foundOrder v_isKept v_imageRows v_imageColumns v_imageFolded v_imageWronged v_bodies v_ran v_ownKind v_ownNumber v_limit v_changeWas v_changeIs v_shapeRows v_shapeColumns v_row v_column v_below v_face v_worn v_lastBend v_tape v_text v_names v_bends v_high v_to v_pileSize v_planLine v_planWay v_way1 v_bestWay v_order1 v_placeIn v_bodyKind v_trace v_shelf v_many v_items v_carried) (some (.int r)) args s) (F0 m 32 ls [.int s0]) := by
  obtain ⟨hx, hb, hml, hown, hts, hr, hlocks, hK, hSt⟩ := id C0
  intro s0 v_base v_at v_ends v_fault v_opened v_tape v_text v_names H locs ls hf hP hD hS hl
  unfold fX9_either_32 at hf
  refine lv_istore_n (lv' := [(1, .int s0), (0, .ref (a 0))]) hx hb dX9_either_32 rfl hl (by decide) rfl (fun ls hl => ?_)
  refine lv_goto (tgt := 5) hx hb dX9_either_33 (by decide) ?_
  exact hk_5 _ _ _ _ _ _ _ _ _ H locs ls hf hP hD hS (lv_sub hl [1, 0] rfl)

def fX9_either_27 (N : Nat) (go : Int32 → Int32 → Int32 → Int32 → Int32 → List Int32 → List Int32 → List Int32 → Option (Int32 × Int32 × Int32 × Int32)) (k_5 : Int32 → Int32 → Int32 → Int32 → Int32 → Int32 → List Int32 → List Int32 → List Int32 → Option (Int32 × Int32 × Int32 × Int32)) (v_base : Int32) (v_at : Int32) (v_ends : Int32) (v_fault : Int32) (v_opened : Int32) (v_tape : List Int32) (v_text : List Int32) (v_names : List Int32) : Option (Int32 × Int32 × Int32 × Int32) :=
    fX9_either_32 N go k_5 (1 : Int32) v_base v_at v_ends v_fault v_opened v_tape v_text v_names

set_option maxHeartbeats 4000000 in
set_option maxRecDepth 100000 in
theorem tX9_either_27 {p : Program} {l : Launch} {e : Env} {s : State} {m : MethodId} {args : Array Value} {below : List Frame} {meth : Method} {c : Code} {D : va_G} {cI cL cS cH : ClassId} {A : Nat → Prop} {d : Nat} {a : Nat → Nat} {go : Int32 → Int32 → Int32 → Int32 → Int32 → List Int32 → List Int32 → List Int32 → Option (Int32 × Int32 × Int32 × Int32)} {dgo : Nat} (hgo : ∀ (a : Nat → Nat) (v_keptMany : Int32) (v_done : Int32) (v_rowsOf : Int32) (v_columnsOf : Int32) (v_folded : Int32) (v_wronged : Int32) (v_tapeMany : Int32) (v_textMany : Int32) (v_base : Int32) (v_at : Int32) (v_ends : Int32) (v_fault : Int32) (v_opened : Int32) (v_bentMany : Int32) (v_bentWrong : Int32) (v_moreWorn : Int32) (v_planned : Int32) (v_allWrong : Int32) (v_allWorn : Int32) (v_z : Int32) (v_wishedField : Int32) (v_isFound : Bool) (v_bestWrong : Int32) (v_bestWorn : Int32) (v_bestMany : Int32) (v_soughtBy : Int32) (v_sought : Int32) (v_soughtAt : Int32) (v_foundMany : Int32) (v_foundOrder : Int32) (v_isKept : Bool) (v_imageRows : Int32) (v_imageColumns : Int32) (v_imageFolded : Int32) (v_imageWronged : Int32) (v_bodies : Int32) (v_ran : Int32) (v_ownKind : Int32) (v_ownNumber : Int32) (v_limit : List Int32) (v_changeWas : List Int32) (v_changeIs : List Int32) (v_shapeRows : List Int32) (v_shapeColumns : List Int32) (v_row : List Int32) (v_column : List Int32) (v_below : List Int32) (v_face : List Int32) (v_worn : List Int32) (v_lastBend : List Int32) (v_tape : List Int32) (v_text : List Int32) (v_names : List Int32) (v_bends : List Int32) (v_high : List Int32) (v_to : List Int32) (v_pileSize : List Int32) (v_planLine : List Int32) (v_planWay : List Int32) (v_way1 : List Int32) (v_bestWay : List Int32) (v_order1 : List Int32) (v_placeIn : List Int32) (v_bodyKind : List Int32) (v_trace : List Int32) (v_shelf : List Int32) (v_many : List Int32) (v_items : List Int64) (v_carried : List Int64) (r : Int32) (w_at : Int32) (w_fault : Int32) (w_opened : Int32), go v_base v_at v_ends v_fault v_opened v_tape v_text v_names = some (r, w_at, w_fault, w_opened) → mm_Ct l yX9_one cX9_one 5 (some .int) dgo D (mm_T cI cL cS cH) [.ref (a 0)] (wd_X9 cI cL cS cH a v_keptMany v_done v_rowsOf v_columnsOf v_folded v_wronged v_tapeMany v_textMany v_base v_at v_ends v_fault v_opened v_bentMany v_bentWrong v_moreWorn v_planned v_allWrong v_allWorn v_z v_wishedField v_isFound v_bestWrong v_bestWorn v_bestMany v_soughtBy v_sought v_soughtAt v_foundMany v_foundOrder v_isKept v_imageRows v_imageColumns v_imageFolded v_imageWronged v_bodies v_ran v_ownKind v_ownNumber v_limit v_changeWas v_changeIs v_shapeRows v_shapeColumns v_row v_column v_below v_face v_worn v_lastBend v_tape v_text v_names v_bends v_high v_to v_pileSize v_planLine v_planWay v_way1 v_bestWay v_order1 v_placeIn v_bodyKind v_trace v_shelf v_many v_items v_carried) (wd_X9 cI cL cS cH a v_keptMany v_done v_rowsOf v_columnsOf v_folded v_wronged v_tapeMany v_textMany v_base w_at v_ends w_fault w_opened v_bentMany v_bentWrong v_moreWorn v_planned v_allWrong v_allWorn v_z v_wishedField v_isFound v_bestWrong v_bestWorn v_bestMany v_soughtBy v_sought v_soughtAt v_foundMany v_foundOrder v_isKept v_imageRows v_imageColumns v_imageFolded v_imageWronged v_bodies v_ran v_ownKind v_ownNumber v_limit v_changeWas v_changeIs v_shapeRows v_shapeColumns v_row v_column v_below v_face v_worn v_lastBend v_tape v_text v_names v_bends v_high v_to v_pileSize v_planLine v_planWay v_way1 v_bestWay v_order1 v_placeIn v_bodyKind v_trace v_shelf v_many v_items v_carried) (some (.int r))) (hE : 2 ≤ dgo) (hd : dgo + 5 ≤ d) (C0 : mm_Cx p s m args meth c RX9 cX9_either 3 (some .int) D (mm_T cI cL cS cH) A) (hA : ∀ q, s.heap.size ≤ q → A q) {v_keptMany : Int32} {v_done : Int32} {v_rowsOf : Int32} {v_columnsOf : Int32} {v_folded : Int32} {v_wronged : Int32} {v_tapeMany : Int32} {v_textMany : Int32} {v_bentMany : Int32} {v_bentWrong : Int32} {v_moreWorn : Int32} {v_planned : Int32} {v_allWrong : Int32} {v_allWorn : Int32} {v_z : Int32} {v_wishedField : Int32} {v_isFound : Bool} {v_bestWrong : Int32} {v_bestWorn : Int32} {v_bestMany : Int32} {v_soughtBy : Int32} {v_sought : Int32} {v_soughtAt : Int32} {v_foundMany : Int32} {v_foundOrder : Int32} {v_isKept : Bool} {v_imageRows : Int32} {v_imageColumns : Int32} {v_imageFolded : Int32} {v_imageWronged : Int32} {v_bodies : Int32} {v_ran : Int32} {v_ownKind : Int32} {v_ownNumber : Int32} {v_limit : List Int32} {v_changeWas : List Int32} {v_changeIs : List Int32} {v_shapeRows : List Int32} {v_shapeColumns : List Int32} {v_row : List Int32} {v_column : List Int32} {v_below : List Int32} {v_face : List Int32} {v_worn : List Int32} {v_lastBend : List Int32} {v_bends : List Int32} {v_high : List Int32} {v_to : List Int32} {v_pileSize : List Int32} {v_planLine : List Int32} {v_planWay : List Int32} {v_way1 : List Int32} {v_bestWay : List Int32} {v_order1 : List Int32} {v_placeIn : List Int32} {v_bodyKind : List Int32} {v_trace : List Int32} {v_shelf : List Int32} {v_many : List Int32} {v_items : List Int64} {v_carried : List Int64} {r : Int32} {w_at : Int32} {w_fault : Int32} {w_opened : Int32} (N : Nat) {k_5 : Int32 → Int32 → Int32 → Int32 → Int32 → Int32 → List Int32 → List Int32 → List Int32 → Option (Int32 × Int32 × Int32 × Int32)} (hk_5 : ∀ (x1 : Int32) (v_base : Int32) (v_at : Int32) (v_ends : Int32) (v_fault : Int32) (v_opened : Int32) (v_tape : List Int32) (v_text : List Int32) (v_names : List Int32) (H : Heap) (locs : List Loc) (ls : Array Slot), k_5 x1 v_base v_at v_ends v_fault v_opened v_tape v_text v_names = some (r, w_at, w_fault, w_opened) → va_P D mm_cl (wd_X9 cI cL cS cH a v_keptMany v_done v_rowsOf v_columnsOf v_folded v_wronged v_tapeMany v_textMany v_base v_at v_ends v_fault v_opened v_bentMany v_bentWrong v_moreWorn v_planned v_allWrong v_allWorn v_z v_wishedField v_isFound v_bestWrong v_bestWorn v_bestMany v_soughtBy v_sought v_soughtAt v_foundMany v_foundOrder v_isKept v_imageRows v_imageColumns v_imageFolded v_imageWronged v_bodies v_ran v_ownKind v_ownNumber v_limit v_changeWas v_changeIs v_shapeRows v_shapeColumns v_row v_column v_below v_face v_worn v_lastBend v_tape v_text v_names v_bends v_high v_to v_pileSize v_planLine v_planWay v_way1 v_bestWay v_order1 v_placeIn v_bodyKind v_trace v_shelf v_many v_items v_carried) H → va_D A (wd_X9 cI cL cS cH a v_keptMany v_done v_rowsOf v_columnsOf v_folded v_wronged v_tapeMany v_textMany v_base v_at v_ends v_fault v_opened v_bentMany v_bentWrong v_moreWorn v_planned v_allWrong v_allWorn v_z v_wishedField v_isFound v_bestWrong v_bestWorn v_bestMany v_soughtBy v_sought v_soughtAt v_foundMany v_foundOrder v_isKept v_imageRows v_imageColumns v_imageFolded v_imageWronged v_bodies v_ran v_ownKind v_ownNumber v_limit v_changeWas v_changeIs v_shapeRows v_shapeColumns v_row v_column v_below v_face v_worn v_lastBend v_tape v_text v_names v_bends v_high v_to v_pileSize v_planLine v_planWay v_way1 v_bestWay v_order1 v_placeIn v_bodyKind v_trace v_shelf v_many v_items v_carried) → va_S A s.heap H locs → lv_has ls 3 [(0, .ref (a 0)), (1, .int x1)] → W p l e (mm_rr d) s m args below meth c H locs 0 0 (mm_Z below D A (wd_X9 cI cL cS cH a v_keptMany v_done v_rowsOf v_columnsOf v_folded v_wronged v_tapeMany v_textMany v_base w_at v_ends w_fault w_opened v_bentMany v_bentWrong v_moreWorn v_planned v_allWrong v_allWorn v_z v_wishedField v_isFound v_bestWrong v_bestWorn v_bestMany v_soughtBy v_sought v_soughtAt v_foundMany v_foundOrder v_isKept v_imageRows v_imageColumns v_imageFolded v_imageWronged v_bodies v_ran v_ownKind v_ownNumber v_limit v_changeWas v_changeIs v_shapeRows v_shapeColumns v_row v_column v_below v_face v_worn v_lastBend v_tape v_text v_names v_bends v_high v_to v_pileSize v_planLine v_planWay v_way1 v_bestWay v_order1 v_placeIn v_bodyKind v_trace v_shelf v_many v_items v_carried) (some (.int r)) args s) (F0 m 5 ls [])) : ∀ (v_base : Int32) (v_at : Int32) (v_ends : Int32) (v_fault : Int32) (v_opened : Int32) (v_tape : List Int32) (v_text : List Int32) (v_names : List Int32) (H : Heap) (locs : List Loc) (ls : Array Slot), fX9_either_27 N go k_5 v_base v_at v_ends v_fault v_opened v_tape v_text v_names = some (r, w_at, w_fault, w_opened) → va_P D mm_cl (wd_X9 cI cL cS cH a v_keptMany v_done v_rowsOf v_columnsOf v_folded v_wronged v_tapeMany v_textMany v_base v_at v_ends v_fault v_opened v_bentMany v_bentWrong v_moreWorn v_planned v_allWrong v_allWorn v_z v_wishedField v_isFound v_bestWrong v_bestWorn v_bestMany v_soughtBy v_sought v_soughtAt v_foundMany v_foundOrder v_isKept v_imageRows v_imageColumns v_imageFolded v_imageWronged v_bodies v_ran v_ownKind v_ownNumber v_limit v_changeWas v_changeIs v_shapeRows v_shapeColumns v_row v_column v_below v_face v_worn v_lastBend v_tape v_text v_names v_bends v_high v_to v_pileSize v_planLine v_planWay v_way1 v_bestWay v_order1 v_placeIn v_bodyKind v_trace v_shelf v_many v_items v_carried) H → va_D A (wd_X9 cI cL cS cH a v_keptMany v_done v_rowsOf v_columnsOf v_folded v_wronged v_tapeMany v_textMany v_base v_at v_ends v_fault v_opened v_bentMany v_bentWrong v_moreWorn v_planned v_allWrong v_allWorn v_z v_wishedField v_isFound v_bestWrong v_bestWorn v_bestMany v_soughtBy v_sought v_soughtAt v_foundMany v_foundOrder v_isKept v_imageRows v_imageColumns v_imageFolded v_imageWronged v_bodies v_ran v_ownKind v_ownNumber v_limit v_changeWas v_changeIs v_shapeRows v_shapeColumns v_row v_column v_below v_face v_worn v_lastBend v_tape v_text v_names v_bends v_high v_to v_pileSize v_planLine v_planWay v_way1 v_bestWay v_order1 v_placeIn v_bodyKind v_trace v_shelf v_many v_items v_carried) → va_S A s.heap H locs → lv_has ls 3 [(0, .ref (a 0))] → W p l e (mm_rr d) s m args below meth c H locs 0 0 (mm_Z below D A (wd_X9 cI cL cS cH a v_keptMany v_done v_rowsOf v_columnsOf v_folded v_wronged v_tapeMany v_textMany v_base w_at v_ends w_fault w_opened v_bentMany v_bentWrong v_moreWorn v_planned v_allWrong v_allWorn v_z v_wishedField v_isFound v_bestWrong v_bestWorn v_bestMany v_soughtBy v_sought v_soughtAt v_foundMany v_foundOrder v_isKept v_imageRows v_imageColumns v_imageFolded v_imageWronged v_bodies v_ran v_ownKind v_ownNumber v_limit v_changeWas v_changeIs v_shapeRows v_shapeColumns v_row v_column v_below v_face v_worn v_lastBend v_tape v_text v_names v_bends v_high v_to v_pileSize v_planLine v_planWay v_way1 v_bestWay v_order1 v_placeIn v_bodyKind v_trace v_shelf v_many v_items v_carried) (some (.int r)) args s) (F0 m 27 ls []) := by
  obtain ⟨hx, hb, hml, hown, hts, hr, hlocks, hK, hSt⟩ := id C0
  intro v_base v_at v_ends v_fault v_opened v_tape v_text v_names H locs ls hf hP hD hS hl
  unfold fX9_either_27 at hf
  refine lv_iconst (v := 1) hx hb dX9_either_27 (by decide) ?_
  refine lv_goto (tgt := 32) hx hb dX9_either_28 (by decide) ?_
  exact tX9_either_32 hgo hE hd C0 hA N hk_5 _ _ _ _ _ _ _ _ _ H locs ls hf hP hD hS (lv_sub hl [0] rfl)

def fX9_either_5 (N : Nat) (go : Int32 → Int32 → Int32 → Int32 → Int32 → List Int32 → List Int32 → List Int32 → Option (Int32 × Int32 × Int32 × Int32))  : Nat → Int32 → Int32 → Int32 → Int32 → Int32 → Int32 → List Int32 → List Int32 → List Int32 → Option (Int32 × Int32 × Int32 × Int32)
  | 0 => fun _ _ _ _ _ _ _ _ _ => none
  | n + 1 => fun x1 v_base v_at v_ends v_fault v_opened v_tape v_text v_names =>
    mm_bd2 (fX9_takes N (124 : Int32) v_base v_at v_ends v_fault v_tape v_text) (fun (r_6 : Bool) (w_7 : Int32) =>
    if r_6 = false then
    (some (x1, w_7, v_fault, v_opened))
    else (mm_bd4 (fX9_both N go v_base w_7 v_ends v_fault v_opened v_tape v_text v_names) (fun (r_10 : Int32) (w_11 : Int32) (w_12 : Int32) (w_13 : Int32) =>
    if x1 = 0 then
    (if r_10 = 0 then
    (fX9_either_32 N go (fX9_either_5 N go n) (0 : Int32) v_base w_11 v_ends w_12 w_13 v_tape v_text v_names)
    else (fX9_either_27 N go (fX9_either_5 N go n) v_base w_11 v_ends w_12 w_13 v_tape v_text v_names))
    else (fX9_either_27 N go (fX9_either_5 N go n) v_base w_11 v_ends w_12 w_13 v_tape v_text v_names))))

set_option maxHeartbeats 4000000 in
set_option maxRecDepth 100000 in
theorem tX9_either_5 {p : Program} {l : Launch} {e : Env} {s : State} {m : MethodId} {args : Array Value} {below : List Frame} {meth : Method} {c : Code} {D : va_G} {cI cL cS cH : ClassId} {A : Nat → Prop} {d : Nat} {a : Nat → Nat} {go : Int32 → Int32 → Int32 → Int32 → Int32 → List Int32 → List Int32 → List Int32 → Option (Int32 × Int32 × Int32 × Int32)} {dgo : Nat} (hgo : ∀ (a : Nat → Nat) (v_keptMany : Int32) (v_done : Int32) (v_rowsOf : Int32) (v_columnsOf : Int32) (v_folded : Int32) (v_wronged : Int32) (v_tapeMany : Int32) (v_textMany : Int32) (v_base : Int32) (v_at : Int32) (v_ends : Int32) (v_fault : Int32) (v_opened : Int32) (v_bentMany : Int32) (v_bentWrong : Int32) (v_moreWorn : Int32) (v_planned : Int32) (v_allWrong : Int32) (v_allWorn : Int32) (v_z : Int32) (v_wishedField : Int32) (v_isFound : Bool) (v_bestWrong : Int32) (v_bestWorn : Int32) (v_bestMany : Int32) (v_soughtBy : Int32) (v_sought : Int32) (v_soughtAt : Int32) (v_foundMany : Int32) (v_foundOrder : Int32) (v_isKept : Bool) (v_imageRows : Int32) (v_imageColumns : Int32) (v_imageFolded : Int32) (v_imageWronged : Int32) (v_bodies : Int32) (v_ran : Int32) (v_ownKind : Int32) (v_ownNumber : Int32) (v_limit : List Int32) (v_changeWas : List Int32) (v_changeIs : List Int32) (v_shapeRows : List Int32) (v_shapeColumns : List Int32) (v_row : List Int32) (v_column : List Int32) (v_below : List Int32) (v_face : List Int32) (v_worn : List Int32) (v_lastBend : List Int32) (v_tape : List Int32) (v_text : List Int32) (v_names : List Int32) (v_bends : List Int32) (v_high : List Int32) (v_to : List Int32) (v_pileSize : List Int32) (v_planLine : List Int32) (v_planWay : List Int32) (v_way1 : List Int32) (v_bestWay : List Int32) (v_order1 : List Int32) (v_placeIn : List Int32) (v_bodyKind : List Int32) (v_trace : List Int32) (v_shelf : List Int32) (v_many : List Int32) (v_items : List Int64) (v_carried : List Int64) (r : Int32) (w_at : Int32) (w_fault : Int32) (w_opened : Int32), go v_base v_at v_ends v_fault v_opened v_tape v_text v_names = some (r, w_at, w_fault, w_opened) → mm_Ct l yX9_one cX9_one 5 (some .int) dgo D (mm_T cI cL cS cH) [.ref (a 0)] (wd_X9 cI cL cS cH a v_keptMany v_done v_rowsOf v_columnsOf v_folded v_wronged v_tapeMany v_textMany v_base v_at v_ends v_fault v_opened v_bentMany v_bentWrong v_moreWorn v_planned v_allWrong v_allWorn v_z v_wishedField v_isFound v_bestWrong v_bestWorn v_bestMany v_soughtBy v_sought v_soughtAt v_foundMany v_foundOrder v_isKept v_imageRows v_imageColumns v_imageFolded v_imageWronged v_bodies v_ran v_ownKind v_ownNumber v_limit v_changeWas v_changeIs v_shapeRows v_shapeColumns v_row v_column v_below v_face v_worn v_lastBend v_tape v_text v_names v_bends v_high v_to v_pileSize v_planLine v_planWay v_way1 v_bestWay v_order1 v_placeIn v_bodyKind v_trace v_shelf v_many v_items v_carried) (wd_X9 cI cL cS cH a v_keptMany v_done v_rowsOf v_columnsOf v_folded v_wronged v_tapeMany v_textMany v_base w_at v_ends w_fault w_opened v_bentMany v_bentWrong v_moreWorn v_planned v_allWrong v_allWorn v_z v_wishedField v_isFound v_bestWrong v_bestWorn v_bestMany v_soughtBy v_sought v_soughtAt v_foundMany v_foundOrder v_isKept v_imageRows v_imageColumns v_imageFolded v_imageWronged v_bodies v_ran v_ownKind v_ownNumber v_limit v_changeWas v_changeIs v_shapeRows v_shapeColumns v_row v_column v_below v_face v_worn v_lastBend v_tape v_text v_names v_bends v_high v_to v_pileSize v_planLine v_planWay v_way1 v_bestWay v_order1 v_placeIn v_bodyKind v_trace v_shelf v_many v_items v_carried) (some (.int r))) (hE : 2 ≤ dgo) (hd : dgo + 5 ≤ d) (C0 : mm_Cx p s m args meth c RX9 cX9_either 3 (some .int) D (mm_T cI cL cS cH) A) (hA : ∀ q, s.heap.size ≤ q → A q) {v_keptMany : Int32} {v_done : Int32} {v_rowsOf : Int32} {v_columnsOf : Int32} {v_folded : Int32} {v_wronged : Int32} {v_tapeMany : Int32} {v_textMany : Int32} {v_bentMany : Int32} {v_bentWrong : Int32} {v_moreWorn : Int32} {v_planned : Int32} {v_allWrong : Int32} {v_allWorn : Int32} {v_z : Int32} {v_wishedField : Int32} {v_isFound : Bool} {v_bestWrong : Int32} {v_bestWorn : Int32} {v_bestMany : Int32} {v_soughtBy : Int32} {v_sought : Int32} {v_soughtAt : Int32} {v_foundMany : Int32} {v_foundOrder : Int32} {v_isKept : Bool} {v_imageRows : Int32} {v_imageColumns : Int32} {v_imageFolded : Int32} {v_imageWronged : Int32} {v_bodies : Int32} {v_ran : Int32} {v_ownKind : Int32} {v_ownNumber : Int32} {v_limit : List Int32} {v_changeWas : List Int32} {v_changeIs : List Int32} {v_shapeRows : List Int32} {v_shapeColumns : List Int32} {v_row : List Int32} {v_column : List Int32} {v_below : List Int32} {v_face : List Int32} {v_worn : List Int32} {v_lastBend : List Int32} {v_bends : List Int32} {v_high : List Int32} {v_to : List Int32} {v_pileSize : List Int32} {v_planLine : List Int32} {v_planWay : List Int32} {v_way1 : List Int32} {v_bestWay : List Int32} {v_order1 : List Int32} {v_placeIn : List Int32} {v_bodyKind : List Int32} {v_trace : List Int32} {v_shelf : List Int32} {v_many : List Int32} {v_items : List Int64} {v_carried : List Int64} {r : Int32} {w_at : Int32} {w_fault : Int32} {w_opened : Int32} (N : Nat)  : ∀ (n : Nat), ∀ (x1 : Int32) (v_base : Int32) (v_at : Int32) (v_ends : Int32) (v_fault : Int32) (v_opened : Int32) (v_tape : List Int32) (v_text : List Int32) (v_names : List Int32) (H : Heap) (locs : List Loc) (ls : Array Slot), fX9_either_5 N go n x1 v_base v_at v_ends v_fault v_opened v_tape v_text v_names = some (r, w_at, w_fault, w_opened) → va_P D mm_cl (wd_X9 cI cL cS cH a v_keptMany v_done v_rowsOf v_columnsOf v_folded v_wronged v_tapeMany v_textMany v_base v_at v_ends v_fault v_opened v_bentMany v_bentWrong v_moreWorn v_planned v_allWrong v_allWorn v_z v_wishedField v_isFound v_bestWrong v_bestWorn v_bestMany v_soughtBy v_sought v_soughtAt v_foundMany v_foundOrder v_isKept v_imageRows v_imageColumns v_imageFolded v_imageWronged v_bodies v_ran v_ownKind v_ownNumber v_limit v_changeWas v_changeIs v_shapeRows v_shapeColumns v_row v_column v_below v_face v_worn v_lastBend v_tape v_text v_names v_bends v_high v_to v_pileSize v_planLine v_planWay v_way1 v_bestWay v_order1 v_placeIn v_bodyKind v_trace v_shelf v_many v_items v_carried) H → va_D A (wd_X9 cI cL cS cH a v_keptMany v_done v_rowsOf v_columnsOf v_folded v_wronged v_tapeMany v_textMany v_base v_at v_ends v_fault v_opened v_bentMany v_bentWrong v_moreWorn v_planned v_allWrong v_allWorn v_z v_wishedField v_isFound v_bestWrong v_bestWorn v_bestMany v_soughtBy v_sought v_soughtAt v_foundMany v_foundOrder v_isKept v_imageRows v_imageColumns v_imageFolded v_imageWronged v_bodies v_ran v_ownKind v_ownNumber v_limit v_changeWas v_changeIs v_shapeRows v_shapeColumns v_row v_column v_below v_face v_worn v_lastBend v_tape v_text v_names v_bends v_high v_to v_pileSize v_planLine v_planWay v_way1 v_bestWay v_order1 v_placeIn v_bodyKind v_trace v_shelf v_many v_items v_carried) → va_S A s.heap H locs → lv_has ls 3 [(0, .ref (a 0)), (1, .int x1)] → W p l e (mm_rr d) s m args below meth c H locs 0 0 (mm_Z below D A (wd_X9 cI cL cS cH a v_keptMany v_done v_rowsOf v_columnsOf v_folded v_wronged v_tapeMany v_textMany v_base w_at v_ends w_fault w_opened v_bentMany v_bentWrong v_moreWorn v_planned v_allWrong v_allWorn v_z v_wishedField v_isFound v_bestWrong v_bestWorn v_bestMany v_soughtBy v_sought v_soughtAt v_foundMany v_foundOrder v_isKept v_imageRows v_imageColumns v_imageFolded v_imageWronged v_bodies v_ran v_ownKind v_ownNumber v_limit v_changeWas v_changeIs v_shapeRows v_shapeColumns v_row v_column v_below v_face v_worn v_lastBend v_tape v_text v_names v_bends v_high v_to v_pileSize v_planLine v_planWay v_way1 v_bestWay v_order1 v_placeIn v_bodyKind v_trace v_shelf v_many v_items v_carried) (some (.int r)) args s) (F0 m 5 ls []) := by
  obtain ⟨hx, hb, hml, hown, hts, hr, hlocks, hK, hSt⟩ := id C0
  intro n
  induction n with
  | zero =>
    intro x1 v_base v_at v_ends v_fault v_opened v_tape v_text v_names H locs ls hf
    cases (show none = some _ from hf)
  | succ n ih =>
    intro x1 v_base v_at v_ends v_fault v_opened v_tape v_text v_names H locs ls hf hP hD hS hl
    unfold fX9_either_5 at hf
    refine lv_aload_n hx hb dX9_either_5 rfl (lv_at hl 0 rfl) ?_
    refine lv_bipush (v := 124) hx hb dX9_either_6 (by decide) ?_
    obtain ⟨r_6, w_7, hc_8, hf⟩ := mm_bd2s hf
    refine mm_callVF (q0 := 0) (ci := 9) (rest := []) C0 lk_X9_168 (ctX9_takes (a := a) (d := d - 1) (by omega) hc_8) (by omega) rfl hl.1 rfl (mm_cat rfl) dX9_either_8 hP hD hA hS rfl rfl (fun H locs hP hD hS => ?_)
    refine W.eq (g2 := F0 m 11 ls [.int (mm_b r_6)]) rfl ?_
    refine lv_if_eq (tgt := 36) hx hb dX9_either_11 (by decide) (fun c_9 => ?_) (fun c_9 => ?_)
    · have hf := mm_ip hf (mm_b0 c_9)
      refine lv_iload_n hx hb dX9_either_36 rfl (lv_at hl 1 rfl) ?_
      apply mm_sub4 hf
      exact mm_iret C0 hP hD hS dX9_either_37
    · have hf := mm_in hf (mm_b1 c_9)
      refine lv_aload_n hx hb dX9_either_14 rfl (lv_at hl 0 rfl) ?_
      obtain ⟨r_10, w_11, w_12, w_13, hc_14, hf⟩ := mm_bd4s hf
      refine mm_callVF (q0 := 0) (ci := 9) (rest := []) C0 lk_X9_165 (ctX9_both (a := a) (d := d - 1) hgo hE (by omega) hc_14) (by omega) rfl hl.1 rfl (mm_cat rfl) dX9_either_15 hP hD hA hS rfl rfl (fun H locs hP hD hS => ?_)
      refine W.eq (g2 := F0 m 18 ls [.int r_10]) rfl ?_
      refine lv_istore_n (lv' := [(2, .int r_10), (0, .ref (a 0)), (1, .int x1)]) hx hb dX9_either_18 rfl hl (by decide) rfl (fun ls hl => ?_)
      refine lv_iload_n hx hb dX9_either_19 rfl (lv_at hl 2 rfl) ?_
      refine lv_if_ne (tgt := 27) hx hb dX9_either_20 (by decide) (fun c_15 => ?_) (fun c_15 => ?_)
      · have hf := mm_in hf c_15
        exact tX9_either_27 hgo hE hd C0 hA N ih _ _ _ _ _ _ _ _ H locs ls hf hP hD hS (lv_sub hl [1] rfl)
      · have hf := mm_ip hf c_15
        refine lv_iload_n hx hb dX9_either_23 rfl (lv_at hl 0 rfl) ?_
        refine lv_if_eq (tgt := 31) hx hb dX9_either_24 (by decide) (fun c_16 => ?_) (fun c_16 => ?_)
        · have hf := mm_ip hf c_16
          refine lv_iconst (v := 0) hx hb dX9_either_31 (by decide) ?_
          exact tX9_either_32 hgo hE hd C0 hA N ih _ _ _ _ _ _ _ _ _ H locs ls hf hP hD hS (lv_sub hl [1] rfl)
        · have hf := mm_in hf c_16
          exact tX9_either_27 hgo hE hd C0 hA N ih _ _ _ _ _ _ _ _ H locs ls hf hP hD hS (lv_sub hl [1] rfl)

def fX9_either (N : Nat) (go : Int32 → Int32 → Int32 → Int32 → Int32 → List Int32 → List Int32 → List Int32 → Option (Int32 × Int32 × Int32 × Int32)) (v_base : Int32) (v_at : Int32) (v_ends : Int32) (v_fault : Int32) (v_opened : Int32) (v_tape : List Int32) (v_text : List Int32) (v_names : List Int32) : Option (Int32 × Int32 × Int32 × Int32) :=
    mm_bd4 (fX9_both N go v_base v_at v_ends v_fault v_opened v_tape v_text v_names) (fun (r_1 : Int32) (w_2 : Int32) (w_3 : Int32) (w_4 : Int32) =>
    fX9_either_5 N go N r_1 v_base w_2 v_ends w_3 w_4 v_tape v_text v_names)

set_option maxHeartbeats 4000000 in
set_option maxRecDepth 100000 in
theorem ctX9_either {l : Launch} {D : va_G} {cI cL cS cH : ClassId} {a : Nat → Nat}  {v_keptMany : Int32} {v_done : Int32} {v_rowsOf : Int32} {v_columnsOf : Int32} {v_folded : Int32} {v_wronged : Int32} {v_tapeMany : Int32} {v_textMany : Int32} {v_base : Int32} {v_at : Int32} {v_ends : Int32} {v_fault : Int32} {v_opened : Int32} {v_bentMany : Int32} {v_bentWrong : Int32} {v_moreWorn : Int32} {v_planned : Int32} {v_allWrong : Int32} {v_allWorn : Int32} {v_z : Int32} {v_wishedField : Int32} {v_isFound : Bool} {v_bestWrong : Int32} {v_bestWorn : Int32} {v_bestMany : Int32} {v_soughtBy : Int32} {v_sought : Int32} {v_soughtAt : Int32} {v_foundMany : Int32} {v_foundOrder : Int32} {v_isKept : Bool} {v_imageRows : Int32} {v_imageColumns : Int32} {v_imageFolded : Int32} {v_imageWronged : Int32} {v_bodies : Int32} {v_ran : Int32} {v_ownKind : Int32} {v_ownNumber : Int32} {v_limit : List Int32} {v_changeWas : List Int32} {v_changeIs : List Int32} {v_shapeRows : List Int32} {v_shapeColumns : List Int32} {v_row : List Int32} {v_column : List Int32} {v_below : List Int32} {v_face : List Int32} {v_worn : List Int32} {v_lastBend : List Int32} {v_tape : List Int32} {v_text : List Int32} {v_names : List Int32} {v_bends : List Int32} {v_high : List Int32} {v_to : List Int32} {v_pileSize : List Int32} {v_planLine : List Int32} {v_planWay : List Int32} {v_way1 : List Int32} {v_bestWay : List Int32} {v_order1 : List Int32} {v_placeIn : List Int32} {v_bodyKind : List Int32} {v_trace : List Int32} {v_shelf : List Int32} {v_many : List Int32} {v_items : List Int64} {v_carried : List Int64} {r : Int32} {w_at : Int32} {w_fault : Int32} {w_opened : Int32} {N d : Nat} {go : Int32 → Int32 → Int32 → Int32 → Int32 → List Int32 → List Int32 → List Int32 → Option (Int32 × Int32 × Int32 × Int32)} {dgo : Nat} (hgo : ∀ (a : Nat → Nat) (v_keptMany : Int32) (v_done : Int32) (v_rowsOf : Int32) (v_columnsOf : Int32) (v_folded : Int32) (v_wronged : Int32) (v_tapeMany : Int32) (v_textMany : Int32) (v_base : Int32) (v_at : Int32) (v_ends : Int32) (v_fault : Int32) (v_opened : Int32) (v_bentMany : Int32) (v_bentWrong : Int32) (v_moreWorn : Int32) (v_planned : Int32) (v_allWrong : Int32) (v_allWorn : Int32) (v_z : Int32) (v_wishedField : Int32) (v_isFound : Bool) (v_bestWrong : Int32) (v_bestWorn : Int32) (v_bestMany : Int32) (v_soughtBy : Int32) (v_sought : Int32) (v_soughtAt : Int32) (v_foundMany : Int32) (v_foundOrder : Int32) (v_isKept : Bool) (v_imageRows : Int32) (v_imageColumns : Int32) (v_imageFolded : Int32) (v_imageWronged : Int32) (v_bodies : Int32) (v_ran : Int32) (v_ownKind : Int32) (v_ownNumber : Int32) (v_limit : List Int32) (v_changeWas : List Int32) (v_changeIs : List Int32) (v_shapeRows : List Int32) (v_shapeColumns : List Int32) (v_row : List Int32) (v_column : List Int32) (v_below : List Int32) (v_face : List Int32) (v_worn : List Int32) (v_lastBend : List Int32) (v_tape : List Int32) (v_text : List Int32) (v_names : List Int32) (v_bends : List Int32) (v_high : List Int32) (v_to : List Int32) (v_pileSize : List Int32) (v_planLine : List Int32) (v_planWay : List Int32) (v_way1 : List Int32) (v_bestWay : List Int32) (v_order1 : List Int32) (v_placeIn : List Int32) (v_bodyKind : List Int32) (v_trace : List Int32) (v_shelf : List Int32) (v_many : List Int32) (v_items : List Int64) (v_carried : List Int64) (r : Int32) (w_at : Int32) (w_fault : Int32) (w_opened : Int32), go v_base v_at v_ends v_fault v_opened v_tape v_text v_names = some (r, w_at, w_fault, w_opened) → mm_Ct l yX9_one cX9_one 5 (some .int) dgo D (mm_T cI cL cS cH) [.ref (a 0)] (wd_X9 cI cL cS cH a v_keptMany v_done v_rowsOf v_columnsOf v_folded v_wronged v_tapeMany v_textMany v_base v_at v_ends v_fault v_opened v_bentMany v_bentWrong v_moreWorn v_planned v_allWrong v_allWorn v_z v_wishedField v_isFound v_bestWrong v_bestWorn v_bestMany v_soughtBy v_sought v_soughtAt v_foundMany v_foundOrder v_isKept v_imageRows v_imageColumns v_imageFolded v_imageWronged v_bodies v_ran v_ownKind v_ownNumber v_limit v_changeWas v_changeIs v_shapeRows v_shapeColumns v_row v_column v_below v_face v_worn v_lastBend v_tape v_text v_names v_bends v_high v_to v_pileSize v_planLine v_planWay v_way1 v_bestWay v_order1 v_placeIn v_bodyKind v_trace v_shelf v_many v_items v_carried) (wd_X9 cI cL cS cH a v_keptMany v_done v_rowsOf v_columnsOf v_folded v_wronged v_tapeMany v_textMany v_base w_at v_ends w_fault w_opened v_bentMany v_bentWrong v_moreWorn v_planned v_allWrong v_allWorn v_z v_wishedField v_isFound v_bestWrong v_bestWorn v_bestMany v_soughtBy v_sought v_soughtAt v_foundMany v_foundOrder v_isKept v_imageRows v_imageColumns v_imageFolded v_imageWronged v_bodies v_ran v_ownKind v_ownNumber v_limit v_changeWas v_changeIs v_shapeRows v_shapeColumns v_row v_column v_below v_face v_worn v_lastBend v_tape v_text v_names v_bends v_high v_to v_pileSize v_planLine v_planWay v_way1 v_bestWay v_order1 v_placeIn v_bodyKind v_trace v_shelf v_many v_items v_carried) (some (.int r))) (hE : 2 ≤ dgo) (hd : dgo + 5 ≤ d) (hf : fX9_either N go v_base v_at v_ends v_fault v_opened v_tape v_text v_names = some (r, w_at, w_fault, w_opened)) : mm_Ct l yX9_either cX9_either 3 (some .int) d D (mm_T cI cL cS cH) [.ref (a 0)] (wd_X9 cI cL cS cH a v_keptMany v_done v_rowsOf v_columnsOf v_folded v_wronged v_tapeMany v_textMany v_base v_at v_ends v_fault v_opened v_bentMany v_bentWrong v_moreWorn v_planned v_allWrong v_allWorn v_z v_wishedField v_isFound v_bestWrong v_bestWorn v_bestMany v_soughtBy v_sought v_soughtAt v_foundMany v_foundOrder v_isKept v_imageRows v_imageColumns v_imageFolded v_imageWronged v_bodies v_ran v_ownKind v_ownNumber v_limit v_changeWas v_changeIs v_shapeRows v_shapeColumns v_row v_column v_below v_face v_worn v_lastBend v_tape v_text v_names v_bends v_high v_to v_pileSize v_planLine v_planWay v_way1 v_bestWay v_order1 v_placeIn v_bodyKind v_trace v_shelf v_many v_items v_carried) (wd_X9 cI cL cS cH a v_keptMany v_done v_rowsOf v_columnsOf v_folded v_wronged v_tapeMany v_textMany v_base w_at v_ends w_fault w_opened v_bentMany v_bentWrong v_moreWorn v_planned v_allWrong v_allWorn v_z v_wishedField v_isFound v_bestWrong v_bestWorn v_bestMany v_soughtBy v_sought v_soughtAt v_foundMany v_foundOrder v_isKept v_imageRows v_imageColumns v_imageFolded v_imageWronged v_bodies v_ran v_ownKind v_ownNumber v_limit v_changeWas v_changeIs v_shapeRows v_shapeColumns v_row v_column v_below v_face v_worn v_lastBend v_tape v_text v_names v_bends v_high v_to v_pileSize v_planLine v_planWay v_way1 v_bestWay v_order1 v_placeIn v_bodyKind v_trace v_shelf v_many v_items v_carried) (some (.int r)) := by
  refine mm_of (by decide) (Nat.le_of_ble_eq_true rfl) ?_
  intro p e s m args below meth c A H locs ls C0 hP hD hA hS hl
  have C0 : mm_Cx p s m args meth c RX9 cX9_either 3 (some .int) D (mm_T cI cL cS cH) A := C0
  obtain ⟨hx, hb, hml, hown, hts, hr, hlocks, hK, hSt⟩ := id C0
  have hl : lv_has ls 3 [(0, .ref (a 0))] := hl
  unfold fX9_either at hf
  refine lv_aload_n hx hb dX9_either_0 rfl (lv_at hl 0 rfl) ?_
  obtain ⟨r_1, w_2, w_3, w_4, hc_5, hf⟩ := mm_bd4s hf
  refine mm_callVF (q0 := 0) (ci := 9) (rest := []) C0 lk_X9_165 (ctX9_both (a := a) (d := d - 1) hgo hE (by omega) hc_5) (by omega) rfl hl.1 rfl (mm_cat rfl) dX9_either_1 hP hD hA hS rfl rfl (fun H locs hP hD hS => ?_)
  refine W.eq (g2 := F0 m 4 ls [.int r_1]) rfl ?_
  refine lv_istore_n (lv' := [(1, .int r_1), (0, .ref (a 0))]) hx hb dX9_either_4 rfl hl (by decide) rfl (fun ls hl => ?_)
  exact tX9_either_5 hgo hE hd C0 hA N  N _ _ _ _ _ _ _ _ _ H locs ls hf hP hD hS (lv_sub hl [1, 0] rfl)

theorem nb_dX9_one_0 : bls_w cX9_one [(0, [42]), (1, [180, 0, 159]), (4, [155, 0, 5]), (7, [3]), (8, [172]), (9, [42]), (10, [182, 0, 162]), (13, [60]), (14, [27]), (15, [16, 33]), (17, [159, 0, 15]), (20, [27])] := bls_of (by decide +kernel)
theorem dX9_one_0 : decode cX9_one 0 = .ok (.aload_n 0, 1) := op_42 nb_dX9_one_0.1
set_option maxRecDepth 100000 in
theorem dX9_one_1 : decode cX9_one 1 = .ok (.getfield 159, 3) := (op_180 nb_dX9_one_0.2.1).trans rfl
set_option maxRecDepth 100000 in
theorem dX9_one_4 : decode cX9_one 4 = .ok (.ifCond .lt 5, 3) := (op_155 nb_dX9_one_0.2.2.1).trans rfl
theorem dX9_one_7 : decode cX9_one 7 = .ok (.iconst 0, 1) := op_3 nb_dX9_one_0.2.2.2.1
theorem dX9_one_8 : decode cX9_one 8 = .ok (.ireturn, 1) := op_172 nb_dX9_one_0.2.2.2.2.1
theorem dX9_one_9 : decode cX9_one 9 = .ok (.aload_n 0, 1) := op_42 nb_dX9_one_0.2.2.2.2.2.1
set_option maxRecDepth 100000 in
theorem dX9_one_10 : decode cX9_one 10 = .ok (.invokevirtual 162, 3) := (op_182 nb_dX9_one_0.2.2.2.2.2.2.1).trans rfl
theorem dX9_one_13 : decode cX9_one 13 = .ok (.istore_n 1, 1) := op_60 nb_dX9_one_0.2.2.2.2.2.2.2.1
theorem dX9_one_14 : decode cX9_one 14 = .ok (.iload_n 1, 1) := op_27 nb_dX9_one_0.2.2.2.2.2.2.2.2.1
set_option maxRecDepth 100000 in
theorem dX9_one_15 : decode cX9_one 15 = .ok (.bipush 33, 2) := (op_16 nb_dX9_one_0.2.2.2.2.2.2.2.2.2.1).trans rfl
set_option maxRecDepth 100000 in
theorem dX9_one_17 : decode cX9_one 17 = .ok (.if_icmp .eq 15, 3) := (op_159 nb_dX9_one_0.2.2.2.2.2.2.2.2.2.2.1).trans rfl
theorem dX9_one_20 : decode cX9_one 20 = .ok (.iload_n 1, 1) := op_27 nb_dX9_one_0.2.2.2.2.2.2.2.2.2.2.2.1
theorem nb_dX9_one_21 : bls_w cX9_one [(21, [16, 45]), (23, [159, 0, 9]), (26, [27]), (27, [16, 40]), (29, [160, 0, 116]), (32, [42]), (33, [180, 0, 184]), (36, [16, 6]), (38, [160, 0, 8]), (41, [42]), (42, [182, 0, 187]), (45, [172])] := bls_of (by decide +kernel)
set_option maxRecDepth 100000 in
theorem dX9_one_21 : decode cX9_one 21 = .ok (.bipush 45, 2) := (op_16 nb_dX9_one_21.1).trans rfl
set_option maxRecDepth 100000 in
theorem dX9_one_23 : decode cX9_one 23 = .ok (.if_icmp .eq 9, 3) := (op_159 nb_dX9_one_21.2.1).trans rfl
theorem dX9_one_26 : decode cX9_one 26 = .ok (.iload_n 1, 1) := op_27 nb_dX9_one_21.2.2.1
set_option maxRecDepth 100000 in
theorem dX9_one_27 : decode cX9_one 27 = .ok (.bipush 40, 2) := (op_16 nb_dX9_one_21.2.2.2.1).trans rfl
set_option maxRecDepth 100000 in
theorem dX9_one_29 : decode cX9_one 29 = .ok (.if_icmp .ne 116, 3) := (op_160 nb_dX9_one_21.2.2.2.2.1).trans rfl
theorem dX9_one_32 : decode cX9_one 32 = .ok (.aload_n 0, 1) := op_42 nb_dX9_one_21.2.2.2.2.2.1
set_option maxRecDepth 100000 in
theorem dX9_one_33 : decode cX9_one 33 = .ok (.getfield 184, 3) := (op_180 nb_dX9_one_21.2.2.2.2.2.2.1).trans rfl
set_option maxRecDepth 100000 in
theorem dX9_one_36 : decode cX9_one 36 = .ok (.bipush 6, 2) := (op_16 nb_dX9_one_21.2.2.2.2.2.2.2.1).trans rfl
set_option maxRecDepth 100000 in
theorem dX9_one_38 : decode cX9_one 38 = .ok (.if_icmp .ne 8, 3) := (op_160 nb_dX9_one_21.2.2.2.2.2.2.2.2.1).trans rfl
theorem dX9_one_41 : decode cX9_one 41 = .ok (.aload_n 0, 1) := op_42 nb_dX9_one_21.2.2.2.2.2.2.2.2.2.1
set_option maxRecDepth 100000 in
theorem dX9_one_42 : decode cX9_one 42 = .ok (.invokevirtual 187, 3) := (op_182 nb_dX9_one_21.2.2.2.2.2.2.2.2.2.2.1).trans rfl
theorem dX9_one_45 : decode cX9_one 45 = .ok (.ireturn, 1) := op_172 nb_dX9_one_21.2.2.2.2.2.2.2.2.2.2.2.1
theorem nb_dX9_one_46 : bls_w cX9_one [(46, [42]), (47, [89]), (48, [180, 0, 184]), (51, [4]), (52, [96]), (53, [181, 0, 184]), (56, [42]), (57, [89]), (58, [180, 0, 150]), (61, [4]), (62, [96]), (63, [181, 0, 150])] := bls_of (by decide +kernel)
theorem dX9_one_46 : decode cX9_one 46 = .ok (.aload_n 0, 1) := op_42 nb_dX9_one_46.1
theorem dX9_one_47 : decode cX9_one 47 = .ok (.dup, 1) := op_89 nb_dX9_one_46.2.1
set_option maxRecDepth 100000 in
theorem dX9_one_48 : decode cX9_one 48 = .ok (.getfield 184, 3) := (op_180 nb_dX9_one_46.2.2.1).trans rfl
theorem dX9_one_51 : decode cX9_one 51 = .ok (.iconst 1, 1) := op_4 nb_dX9_one_46.2.2.2.1
theorem dX9_one_52 : decode cX9_one 52 = .ok (.iadd, 1) := op_96 nb_dX9_one_46.2.2.2.2.1
set_option maxRecDepth 100000 in
theorem dX9_one_53 : decode cX9_one 53 = .ok (.putfield 184, 3) := (op_181 nb_dX9_one_46.2.2.2.2.2.1).trans rfl
theorem dX9_one_56 : decode cX9_one 56 = .ok (.aload_n 0, 1) := op_42 nb_dX9_one_46.2.2.2.2.2.2.1
theorem dX9_one_57 : decode cX9_one 57 = .ok (.dup, 1) := op_89 nb_dX9_one_46.2.2.2.2.2.2.2.1
set_option maxRecDepth 100000 in
theorem dX9_one_58 : decode cX9_one 58 = .ok (.getfield 150, 3) := (op_180 nb_dX9_one_46.2.2.2.2.2.2.2.2.1).trans rfl
theorem dX9_one_61 : decode cX9_one 61 = .ok (.iconst 1, 1) := op_4 nb_dX9_one_46.2.2.2.2.2.2.2.2.2.1
theorem dX9_one_62 : decode cX9_one 62 = .ok (.iadd, 1) := op_96 nb_dX9_one_46.2.2.2.2.2.2.2.2.2.2.1
set_option maxRecDepth 100000 in
theorem dX9_one_63 : decode cX9_one 63 = .ok (.putfield 150, 3) := (op_181 nb_dX9_one_46.2.2.2.2.2.2.2.2.2.2.2.1).trans rfl
theorem nb_dX9_one_66 : bls_w cX9_one [(66, [27]), (67, [16, 40]), (69, [160, 0, 10]), (72, [42]), (73, [182, 0, 190]), (76, [167, 0, 7]), (79, [42]), (80, [182, 0, 181]), (83, [61]), (84, [27]), (85, [16, 40]), (87, [160, 0, 17])] := bls_of (by decide +kernel)
theorem dX9_one_66 : decode cX9_one 66 = .ok (.iload_n 1, 1) := op_27 nb_dX9_one_66.1
set_option maxRecDepth 100000 in
theorem dX9_one_67 : decode cX9_one 67 = .ok (.bipush 40, 2) := (op_16 nb_dX9_one_66.2.1).trans rfl
set_option maxRecDepth 100000 in
theorem dX9_one_69 : decode cX9_one 69 = .ok (.if_icmp .ne 10, 3) := (op_160 nb_dX9_one_66.2.2.1).trans rfl
theorem dX9_one_72 : decode cX9_one 72 = .ok (.aload_n 0, 1) := op_42 nb_dX9_one_66.2.2.2.1
set_option maxRecDepth 100000 in
theorem dX9_one_73 : decode cX9_one 73 = .ok (.invokevirtual 190, 3) := (op_182 nb_dX9_one_66.2.2.2.2.1).trans rfl
set_option maxRecDepth 100000 in
theorem dX9_one_76 : decode cX9_one 76 = .ok (.goto 7, 3) := (op_167 nb_dX9_one_66.2.2.2.2.2.1).trans rfl
theorem dX9_one_79 : decode cX9_one 79 = .ok (.aload_n 0, 1) := op_42 nb_dX9_one_66.2.2.2.2.2.2.1
set_option maxRecDepth 100000 in
theorem dX9_one_80 : decode cX9_one 80 = .ok (.invokevirtual 181, 3) := (op_182 nb_dX9_one_66.2.2.2.2.2.2.2.1).trans rfl
theorem dX9_one_83 : decode cX9_one 83 = .ok (.istore_n 2, 1) := op_61 nb_dX9_one_66.2.2.2.2.2.2.2.2.1
theorem dX9_one_84 : decode cX9_one 84 = .ok (.iload_n 1, 1) := op_27 nb_dX9_one_66.2.2.2.2.2.2.2.2.2.1
set_option maxRecDepth 100000 in
theorem dX9_one_85 : decode cX9_one 85 = .ok (.bipush 40, 2) := (op_16 nb_dX9_one_66.2.2.2.2.2.2.2.2.2.2.1).trans rfl
set_option maxRecDepth 100000 in
theorem dX9_one_87 : decode cX9_one 87 = .ok (.if_icmp .ne 17, 3) := (op_160 nb_dX9_one_66.2.2.2.2.2.2.2.2.2.2.2.1).trans rfl
theorem nb_dX9_one_90 : bls_w cX9_one [(90, [42]), (91, [16, 41]), (93, [182, 0, 168]), (96, [154, 0, 8]), (99, [42]), (100, [182, 0, 187]), (103, [172]), (104, [42]), (105, [89]), (106, [180, 0, 184]), (109, [4]), (110, [100])] := bls_of (by decide +kernel)
theorem dX9_one_90 : decode cX9_one 90 = .ok (.aload_n 0, 1) := op_42 nb_dX9_one_90.1
set_option maxRecDepth 100000 in
theorem dX9_one_91 : decode cX9_one 91 = .ok (.bipush 41, 2) := (op_16 nb_dX9_one_90.2.1).trans rfl
set_option maxRecDepth 100000 in
theorem dX9_one_93 : decode cX9_one 93 = .ok (.invokevirtual 168, 3) := (op_182 nb_dX9_one_90.2.2.1).trans rfl
set_option maxRecDepth 100000 in
theorem dX9_one_96 : decode cX9_one 96 = .ok (.ifCond .ne 8, 3) := (op_154 nb_dX9_one_90.2.2.2.1).trans rfl
theorem dX9_one_99 : decode cX9_one 99 = .ok (.aload_n 0, 1) := op_42 nb_dX9_one_90.2.2.2.2.1
set_option maxRecDepth 100000 in
theorem dX9_one_100 : decode cX9_one 100 = .ok (.invokevirtual 187, 3) := (op_182 nb_dX9_one_90.2.2.2.2.2.1).trans rfl
theorem dX9_one_103 : decode cX9_one 103 = .ok (.ireturn, 1) := op_172 nb_dX9_one_90.2.2.2.2.2.2.1
theorem dX9_one_104 : decode cX9_one 104 = .ok (.aload_n 0, 1) := op_42 nb_dX9_one_90.2.2.2.2.2.2.2.1
theorem dX9_one_105 : decode cX9_one 105 = .ok (.dup, 1) := op_89 nb_dX9_one_90.2.2.2.2.2.2.2.2.1
set_option maxRecDepth 100000 in
theorem dX9_one_106 : decode cX9_one 106 = .ok (.getfield 184, 3) := (op_180 nb_dX9_one_90.2.2.2.2.2.2.2.2.2.1).trans rfl
theorem dX9_one_109 : decode cX9_one 109 = .ok (.iconst 1, 1) := op_4 nb_dX9_one_90.2.2.2.2.2.2.2.2.2.2.1
theorem dX9_one_110 : decode cX9_one 110 = .ok (.isub, 1) := op_100 nb_dX9_one_90.2.2.2.2.2.2.2.2.2.2.2.1
theorem nb_dX9_one_111 : bls_w cX9_one [(111, [181, 0, 184]), (114, [27]), (115, [16, 40]), (117, [160, 0, 7]), (120, [28]), (121, [167, 0, 23]), (124, [27]), (125, [16, 45]), (127, [160, 0, 8]), (130, [28]), (131, [116]), (132, [167, 0, 12])] := bls_of (by decide +kernel)
set_option maxRecDepth 100000 in
theorem dX9_one_111 : decode cX9_one 111 = .ok (.putfield 184, 3) := (op_181 nb_dX9_one_111.1).trans rfl
theorem dX9_one_114 : decode cX9_one 114 = .ok (.iload_n 1, 1) := op_27 nb_dX9_one_111.2.1
set_option maxRecDepth 100000 in
theorem dX9_one_115 : decode cX9_one 115 = .ok (.bipush 40, 2) := (op_16 nb_dX9_one_111.2.2.1).trans rfl
set_option maxRecDepth 100000 in
theorem dX9_one_117 : decode cX9_one 117 = .ok (.if_icmp .ne 7, 3) := (op_160 nb_dX9_one_111.2.2.2.1).trans rfl
theorem dX9_one_120 : decode cX9_one 120 = .ok (.iload_n 2, 1) := op_28 nb_dX9_one_111.2.2.2.2.1
set_option maxRecDepth 100000 in
theorem dX9_one_121 : decode cX9_one 121 = .ok (.goto 23, 3) := (op_167 nb_dX9_one_111.2.2.2.2.2.1).trans rfl
theorem dX9_one_124 : decode cX9_one 124 = .ok (.iload_n 1, 1) := op_27 nb_dX9_one_111.2.2.2.2.2.2.1
set_option maxRecDepth 100000 in
theorem dX9_one_125 : decode cX9_one 125 = .ok (.bipush 45, 2) := (op_16 nb_dX9_one_111.2.2.2.2.2.2.2.1).trans rfl
set_option maxRecDepth 100000 in
theorem dX9_one_127 : decode cX9_one 127 = .ok (.if_icmp .ne 8, 3) := (op_160 nb_dX9_one_111.2.2.2.2.2.2.2.2.1).trans rfl
theorem dX9_one_130 : decode cX9_one 130 = .ok (.iload_n 2, 1) := op_28 nb_dX9_one_111.2.2.2.2.2.2.2.2.2.1
theorem dX9_one_131 : decode cX9_one 131 = .ok (.ineg, 1) := op_116 nb_dX9_one_111.2.2.2.2.2.2.2.2.2.2.1
set_option maxRecDepth 100000 in
theorem dX9_one_132 : decode cX9_one 132 = .ok (.goto 12, 3) := (op_167 nb_dX9_one_111.2.2.2.2.2.2.2.2.2.2.2.1).trans rfl
theorem nb_dX9_one_135 : bls_w cX9_one [(135, [28]), (136, [154, 0, 7]), (139, [4]), (140, [167, 0, 4]), (143, [3]), (144, [172]), (145, [27]), (146, [184, 0, 193]), (149, [61]), (150, [28]), (151, [155, 0, 20]), (154, [42])] := bls_of (by decide +kernel)
theorem dX9_one_135 : decode cX9_one 135 = .ok (.iload_n 2, 1) := op_28 nb_dX9_one_135.1
set_option maxRecDepth 100000 in
theorem dX9_one_136 : decode cX9_one 136 = .ok (.ifCond .ne 7, 3) := (op_154 nb_dX9_one_135.2.1).trans rfl
theorem dX9_one_139 : decode cX9_one 139 = .ok (.iconst 1, 1) := op_4 nb_dX9_one_135.2.2.1
set_option maxRecDepth 100000 in
theorem dX9_one_140 : decode cX9_one 140 = .ok (.goto 4, 3) := (op_167 nb_dX9_one_135.2.2.2.1).trans rfl
theorem dX9_one_143 : decode cX9_one 143 = .ok (.iconst 0, 1) := op_3 nb_dX9_one_135.2.2.2.2.1
theorem dX9_one_144 : decode cX9_one 144 = .ok (.ireturn, 1) := op_172 nb_dX9_one_135.2.2.2.2.2.1
theorem dX9_one_145 : decode cX9_one 145 = .ok (.iload_n 1, 1) := op_27 nb_dX9_one_135.2.2.2.2.2.2.1
set_option maxRecDepth 100000 in
theorem dX9_one_146 : decode cX9_one 146 = .ok (.invokestatic 193, 3) := (op_184 nb_dX9_one_135.2.2.2.2.2.2.2.1).trans rfl
theorem dX9_one_149 : decode cX9_one 149 = .ok (.istore_n 2, 1) := op_61 nb_dX9_one_135.2.2.2.2.2.2.2.2.1
theorem dX9_one_150 : decode cX9_one 150 = .ok (.iload_n 2, 1) := op_28 nb_dX9_one_135.2.2.2.2.2.2.2.2.2.1
set_option maxRecDepth 100000 in
theorem dX9_one_151 : decode cX9_one 151 = .ok (.ifCond .lt 20, 3) := (op_155 nb_dX9_one_135.2.2.2.2.2.2.2.2.2.2.1).trans rfl
theorem dX9_one_154 : decode cX9_one 154 = .ok (.aload_n 0, 1) := op_42 nb_dX9_one_135.2.2.2.2.2.2.2.2.2.2.2.1
theorem nb_dX9_one_155 : bls_w cX9_one [(155, [89]), (156, [180, 0, 150]), (159, [4]), (160, [96]), (161, [181, 0, 150]), (164, [42]), (165, [180, 0, 49]), (168, [28]), (169, [46]), (170, [172]), (171, [3]), (172, [62])] := bls_of (by decide +kernel)
theorem dX9_one_155 : decode cX9_one 155 = .ok (.dup, 1) := op_89 nb_dX9_one_155.1
set_option maxRecDepth 100000 in
theorem dX9_one_156 : decode cX9_one 156 = .ok (.getfield 150, 3) := (op_180 nb_dX9_one_155.2.1).trans rfl
theorem dX9_one_159 : decode cX9_one 159 = .ok (.iconst 1, 1) := op_4 nb_dX9_one_155.2.2.1
theorem dX9_one_160 : decode cX9_one 160 = .ok (.iadd, 1) := op_96 nb_dX9_one_155.2.2.2.1
set_option maxRecDepth 100000 in
theorem dX9_one_161 : decode cX9_one 161 = .ok (.putfield 150, 3) := (op_181 nb_dX9_one_155.2.2.2.2.1).trans rfl
theorem dX9_one_164 : decode cX9_one 164 = .ok (.aload_n 0, 1) := op_42 nb_dX9_one_155.2.2.2.2.2.1
set_option maxRecDepth 100000 in
theorem dX9_one_165 : decode cX9_one 165 = .ok (.getfield 49, 3) := (op_180 nb_dX9_one_155.2.2.2.2.2.2.1).trans rfl
theorem dX9_one_168 : decode cX9_one 168 = .ok (.iload_n 2, 1) := op_28 nb_dX9_one_155.2.2.2.2.2.2.2.1
theorem dX9_one_169 : decode cX9_one 169 = .ok (.iaload, 1) := op_46 nb_dX9_one_155.2.2.2.2.2.2.2.2.1
theorem dX9_one_170 : decode cX9_one 170 = .ok (.ireturn, 1) := op_172 nb_dX9_one_155.2.2.2.2.2.2.2.2.2.1
theorem dX9_one_171 : decode cX9_one 171 = .ok (.iconst 0, 1) := op_3 nb_dX9_one_155.2.2.2.2.2.2.2.2.2.2.1
theorem dX9_one_172 : decode cX9_one 172 = .ok (.istore_n 3, 1) := op_62 nb_dX9_one_155.2.2.2.2.2.2.2.2.2.2.2.1
theorem nb_dX9_one_173 : bls_w cX9_one [(173, [3]), (174, [54, 4]), (176, [21, 4]), (178, [7]), (179, [162, 0, 50]), (182, [42]), (183, [182, 0, 162]), (186, [16, 48]), (188, [161, 0, 41]), (191, [42]), (192, [182, 0, 162]), (195, [16, 57])] := bls_of (by decide +kernel)
theorem dX9_one_173 : decode cX9_one 173 = .ok (.iconst 0, 1) := op_3 nb_dX9_one_173.1
set_option maxRecDepth 100000 in
theorem dX9_one_174 : decode cX9_one 174 = .ok (.istore 4, 2) := (op_54 nb_dX9_one_173.2.1).trans rfl
set_option maxRecDepth 100000 in
theorem dX9_one_176 : decode cX9_one 176 = .ok (.iload 4, 2) := (op_21 nb_dX9_one_173.2.2.1).trans rfl
theorem dX9_one_178 : decode cX9_one 178 = .ok (.iconst 4, 1) := op_7 nb_dX9_one_173.2.2.2.1
set_option maxRecDepth 100000 in
theorem dX9_one_179 : decode cX9_one 179 = .ok (.if_icmp .ge 50, 3) := (op_162 nb_dX9_one_173.2.2.2.2.1).trans rfl
theorem dX9_one_182 : decode cX9_one 182 = .ok (.aload_n 0, 1) := op_42 nb_dX9_one_173.2.2.2.2.2.1
set_option maxRecDepth 100000 in
theorem dX9_one_183 : decode cX9_one 183 = .ok (.invokevirtual 162, 3) := (op_182 nb_dX9_one_173.2.2.2.2.2.2.1).trans rfl
set_option maxRecDepth 100000 in
theorem dX9_one_186 : decode cX9_one 186 = .ok (.bipush 48, 2) := (op_16 nb_dX9_one_173.2.2.2.2.2.2.2.1).trans rfl
set_option maxRecDepth 100000 in
theorem dX9_one_188 : decode cX9_one 188 = .ok (.if_icmp .lt 41, 3) := (op_161 nb_dX9_one_173.2.2.2.2.2.2.2.2.1).trans rfl
theorem dX9_one_191 : decode cX9_one 191 = .ok (.aload_n 0, 1) := op_42 nb_dX9_one_173.2.2.2.2.2.2.2.2.2.1
set_option maxRecDepth 100000 in
theorem dX9_one_192 : decode cX9_one 192 = .ok (.invokevirtual 162, 3) := (op_182 nb_dX9_one_173.2.2.2.2.2.2.2.2.2.2.1).trans rfl
set_option maxRecDepth 100000 in
theorem dX9_one_195 : decode cX9_one 195 = .ok (.bipush 57, 2) := (op_16 nb_dX9_one_173.2.2.2.2.2.2.2.2.2.2.2.1).trans rfl
theorem nb_dX9_one_197 : bls_w cX9_one [(197, [163, 0, 32]), (200, [16, 10]), (202, [29]), (203, [104]), (204, [42]), (205, [182, 0, 162]), (208, [96]), (209, [16, 48]), (211, [100]), (212, [62]), (213, [132, 4, 1]), (216, [42])] := bls_of (by decide +kernel)
set_option maxRecDepth 100000 in
theorem dX9_one_197 : decode cX9_one 197 = .ok (.if_icmp .gt 32, 3) := (op_163 nb_dX9_one_197.1).trans rfl
set_option maxRecDepth 100000 in
theorem dX9_one_200 : decode cX9_one 200 = .ok (.bipush 10, 2) := (op_16 nb_dX9_one_197.2.1).trans rfl
theorem dX9_one_202 : decode cX9_one 202 = .ok (.iload_n 3, 1) := op_29 nb_dX9_one_197.2.2.1
theorem dX9_one_203 : decode cX9_one 203 = .ok (.imul, 1) := op_104 nb_dX9_one_197.2.2.2.1
theorem dX9_one_204 : decode cX9_one 204 = .ok (.aload_n 0, 1) := op_42 nb_dX9_one_197.2.2.2.2.1
set_option maxRecDepth 100000 in
theorem dX9_one_205 : decode cX9_one 205 = .ok (.invokevirtual 162, 3) := (op_182 nb_dX9_one_197.2.2.2.2.2.1).trans rfl
theorem dX9_one_208 : decode cX9_one 208 = .ok (.iadd, 1) := op_96 nb_dX9_one_197.2.2.2.2.2.2.1
set_option maxRecDepth 100000 in
theorem dX9_one_209 : decode cX9_one 209 = .ok (.bipush 48, 2) := (op_16 nb_dX9_one_197.2.2.2.2.2.2.2.1).trans rfl
theorem dX9_one_211 : decode cX9_one 211 = .ok (.isub, 1) := op_100 nb_dX9_one_197.2.2.2.2.2.2.2.2.1
theorem dX9_one_212 : decode cX9_one 212 = .ok (.istore_n 3, 1) := op_62 nb_dX9_one_197.2.2.2.2.2.2.2.2.2.1
set_option maxRecDepth 100000 in
theorem dX9_one_213 : decode cX9_one 213 = .ok (.iinc 4 1, 3) := (op_132 nb_dX9_one_197.2.2.2.2.2.2.2.2.2.2.1).trans rfl
theorem dX9_one_216 : decode cX9_one 216 = .ok (.aload_n 0, 1) := op_42 nb_dX9_one_197.2.2.2.2.2.2.2.2.2.2.2.1
theorem nb_dX9_one_217 : bls_w cX9_one [(217, [89]), (218, [180, 0, 150]), (221, [4]), (222, [96]), (223, [181, 0, 150]), (226, [167, 255, 206]), (229, [21, 4]), (231, [154, 0, 10]), (234, [42]), (235, [182, 0, 187]), (238, [167, 0, 4]), (241, [29])] := bls_of (by decide +kernel)
theorem dX9_one_217 : decode cX9_one 217 = .ok (.dup, 1) := op_89 nb_dX9_one_217.1
set_option maxRecDepth 100000 in
theorem dX9_one_218 : decode cX9_one 218 = .ok (.getfield 150, 3) := (op_180 nb_dX9_one_217.2.1).trans rfl
theorem dX9_one_221 : decode cX9_one 221 = .ok (.iconst 1, 1) := op_4 nb_dX9_one_217.2.2.1
theorem dX9_one_222 : decode cX9_one 222 = .ok (.iadd, 1) := op_96 nb_dX9_one_217.2.2.2.1
set_option maxRecDepth 100000 in
theorem dX9_one_223 : decode cX9_one 223 = .ok (.putfield 150, 3) := (op_181 nb_dX9_one_217.2.2.2.2.1).trans rfl
set_option maxRecDepth 100000 in
theorem dX9_one_226 : decode cX9_one 226 = .ok (.goto (-50), 3) := (op_167 nb_dX9_one_217.2.2.2.2.2.1).trans rfl
set_option maxRecDepth 100000 in
theorem dX9_one_229 : decode cX9_one 229 = .ok (.iload 4, 2) := (op_21 nb_dX9_one_217.2.2.2.2.2.2.1).trans rfl
set_option maxRecDepth 100000 in
theorem dX9_one_231 : decode cX9_one 231 = .ok (.ifCond .ne 10, 3) := (op_154 nb_dX9_one_217.2.2.2.2.2.2.2.1).trans rfl
theorem dX9_one_234 : decode cX9_one 234 = .ok (.aload_n 0, 1) := op_42 nb_dX9_one_217.2.2.2.2.2.2.2.2.1
set_option maxRecDepth 100000 in
theorem dX9_one_235 : decode cX9_one 235 = .ok (.invokevirtual 187, 3) := (op_182 nb_dX9_one_217.2.2.2.2.2.2.2.2.2.1).trans rfl
set_option maxRecDepth 100000 in
theorem dX9_one_238 : decode cX9_one 238 = .ok (.goto 4, 3) := (op_167 nb_dX9_one_217.2.2.2.2.2.2.2.2.2.2.1).trans rfl
theorem dX9_one_241 : decode cX9_one 241 = .ok (.iload_n 3, 1) := op_29 nb_dX9_one_217.2.2.2.2.2.2.2.2.2.2.2.1
theorem nb_dX9_one_242 : bls_w cX9_one [(242, [172])] := bls_of (by decide +kernel)
theorem dX9_one_242 : decode cX9_one 242 = .ok (.ireturn, 1) := op_172 nb_dX9_one_242.1
def fX9_one_104 (N : Nat) (go : Int32 → Int32 → Int32 → Int32 → Int32 → List Int32 → List Int32 → List Int32 → Option (Int32 × Int32 × Int32 × Int32))  (x1 : Int32) (x2 : Int32) (v_base : Int32) (v_at : Int32) (v_ends : Int32) (v_fault : Int32) (v_opened : Int32) (v_tape : List Int32) (v_text : List Int32) (v_names : List Int32) : Option (Int32 × Int32 × Int32 × Int32) :=
    mm_nm ((v_opened - (1 : Int32))) (fun (y_53 : Int32) =>
    if x1 = (40 : Int32) then
    (some (x2, v_at, v_fault, y_53))
    else (if x1 = (45 : Int32) then
    (some ((-x2), v_at, v_fault, y_53))
    else (if x2 = 0 then
    (some ((1 : Int32), v_at, v_fault, y_53))
    else (some ((0 : Int32), v_at, v_fault, y_53)))))

set_option maxHeartbeats 4000000 in
set_option maxRecDepth 100000 in
theorem tX9_one_104 {p : Program} {l : Launch} {e : Env} {s : State} {m : MethodId} {args : Array Value} {below : List Frame} {meth : Method} {c : Code} {D : va_G} {cI cL cS cH : ClassId} {A : Nat → Prop} {d : Nat} {a : Nat → Nat} {go : Int32 → Int32 → Int32 → Int32 → Int32 → List Int32 → List Int32 → List Int32 → Option (Int32 × Int32 × Int32 × Int32)} {dgo : Nat} (hgo : ∀ (a : Nat → Nat) (v_keptMany : Int32) (v_done : Int32) (v_rowsOf : Int32) (v_columnsOf : Int32) (v_folded : Int32) (v_wronged : Int32) (v_tapeMany : Int32) (v_textMany : Int32) (v_base : Int32) (v_at : Int32) (v_ends : Int32) (v_fault : Int32) (v_opened : Int32) (v_bentMany : Int32) (v_bentWrong : Int32) (v_moreWorn : Int32) (v_planned : Int32) (v_allWrong : Int32) (v_allWorn : Int32) (v_z : Int32) (v_wishedField : Int32) (v_isFound : Bool) (v_bestWrong : Int32) (v_bestWorn : Int32) (v_bestMany : Int32) (v_soughtBy : Int32) (v_sought : Int32) (v_soughtAt : Int32) (v_foundMany : Int32) (v_foundOrder : Int32) (v_isKept : Bool) (v_imageRows : Int32) (v_imageColumns : Int32) (v_imageFolded : Int32) (v_imageWronged : Int32) (v_bodies : Int32) (v_ran : Int32) (v_ownKind : Int32) (v_ownNumber : Int32) (v_limit : List Int32) (v_changeWas : List Int32) (v_changeIs : List Int32) (v_shapeRows : List Int32) (v_shapeColumns : List Int32) (v_row : List Int32) (v_column : List Int32) (v_below : List Int32) (v_face : List Int32) (v_worn : List Int32) (v_lastBend : List Int32) (v_tape : List Int32) (v_text : List Int32) (v_names : List Int32) (v_bends : List Int32) (v_high : List Int32) (v_to : List Int32) (v_pileSize : List Int32) (v_planLine : List Int32) (v_planWay : List Int32) (v_way1 : List Int32) (v_bestWay : List Int32) (v_order1 : List Int32) (v_placeIn : List Int32) (v_bodyKind : List Int32) (v_trace : List Int32) (v_shelf : List Int32) (v_many : List Int32) (v_items : List Int64) (v_carried : List Int64) (r : Int32) (w_at : Int32) (w_fault : Int32) (w_opened : Int32), go v_base v_at v_ends v_fault v_opened v_tape v_text v_names = some (r, w_at, w_fault, w_opened) → mm_Ct l yX9_one cX9_one 5 (some .int) dgo D (mm_T cI cL cS cH) [.ref (a 0)] (wd_X9 cI cL cS cH a v_keptMany v_done v_rowsOf v_columnsOf v_folded v_wronged v_tapeMany v_textMany v_base v_at v_ends v_fault v_opened v_bentMany v_bentWrong v_moreWorn v_planned v_allWrong v_allWorn v_z v_wishedField v_isFound v_bestWrong v_bestWorn v_bestMany v_soughtBy v_sought v_soughtAt v_foundMany v_foundOrder v_isKept v_imageRows v_imageColumns v_imageFolded v_imageWronged v_bodies v_ran v_ownKind v_ownNumber v_limit v_changeWas v_changeIs v_shapeRows v_shapeColumns v_row v_column v_below v_face v_worn v_lastBend v_tape v_text v_names v_bends v_high v_to v_pileSize v_planLine v_planWay v_way1 v_bestWay v_order1 v_placeIn v_bodyKind v_trace v_shelf v_many v_items v_carried) (wd_X9 cI cL cS cH a v_keptMany v_done v_rowsOf v_columnsOf v_folded v_wronged v_tapeMany v_textMany v_base w_at v_ends w_fault w_opened v_bentMany v_bentWrong v_moreWorn v_planned v_allWrong v_allWorn v_z v_wishedField v_isFound v_bestWrong v_bestWorn v_bestMany v_soughtBy v_sought v_soughtAt v_foundMany v_foundOrder v_isKept v_imageRows v_imageColumns v_imageFolded v_imageWronged v_bodies v_ran v_ownKind v_ownNumber v_limit v_changeWas v_changeIs v_shapeRows v_shapeColumns v_row v_column v_below v_face v_worn v_lastBend v_tape v_text v_names v_bends v_high v_to v_pileSize v_planLine v_planWay v_way1 v_bestWay v_order1 v_placeIn v_bodyKind v_trace v_shelf v_many v_items v_carried) (some (.int r))) (hE : 2 ≤ dgo) (hd : dgo + 6 ≤ d) (C0 : mm_Cx p s m args meth c RX9 cX9_one 5 (some .int) D (mm_T cI cL cS cH) A) (hA : ∀ q, s.heap.size ≤ q → A q) {v_keptMany : Int32} {v_done : Int32} {v_rowsOf : Int32} {v_columnsOf : Int32} {v_folded : Int32} {v_wronged : Int32} {v_tapeMany : Int32} {v_textMany : Int32} {v_bentMany : Int32} {v_bentWrong : Int32} {v_moreWorn : Int32} {v_planned : Int32} {v_allWrong : Int32} {v_allWorn : Int32} {v_z : Int32} {v_wishedField : Int32} {v_isFound : Bool} {v_bestWrong : Int32} {v_bestWorn : Int32} {v_bestMany : Int32} {v_soughtBy : Int32} {v_sought : Int32} {v_soughtAt : Int32} {v_foundMany : Int32} {v_foundOrder : Int32} {v_isKept : Bool} {v_imageRows : Int32} {v_imageColumns : Int32} {v_imageFolded : Int32} {v_imageWronged : Int32} {v_bodies : Int32} {v_ran : Int32} {v_ownKind : Int32} {v_ownNumber : Int32} {v_limit : List Int32} {v_changeWas : List Int32} {v_changeIs : List Int32} {v_shapeRows : List Int32} {v_shapeColumns : List Int32} {v_row : List Int32} {v_column : List Int32} {v_below : List Int32} {v_face : List Int32} {v_worn : List Int32} {v_lastBend : List Int32} {v_bends : List Int32} {v_high : List Int32} {v_to : List Int32} {v_pileSize : List Int32} {v_planLine : List Int32} {v_planWay : List Int32} {v_way1 : List Int32} {v_bestWay : List Int32} {v_order1 : List Int32} {v_placeIn : List Int32} {v_bodyKind : List Int32} {v_trace : List Int32} {v_shelf : List Int32} {v_many : List Int32} {v_items : List Int64} {v_carried : List Int64} {r : Int32} {w_at : Int32} {w_fault : Int32} {w_opened : Int32} (N : Nat)  : ∀ (x1 : Int32) (x2 : Int32) (v_base : Int32) (v_at : Int32) (v_ends : Int32) (v_fault : Int32) (v_opened : Int32) (v_tape : List Int32) (v_text : List Int32) (v_names : List Int32) (H : Heap) (locs : List Loc) (ls : Array Slot), fX9_one_104 N go x1 x2 v_base v_at v_ends v_fault v_opened v_tape v_text v_names = some (r, w_at, w_fault, w_opened) → va_P D mm_cl (wd_X9 cI cL cS cH a v_keptMany v_done v_rowsOf v_columnsOf v_folded v_wronged v_tapeMany v_textMany v_base v_at v_ends v_fault v_opened v_bentMany v_bentWrong v_moreWorn v_planned v_allWrong v_allWorn v_z v_wishedField v_isFound v_bestWrong v_bestWorn v_bestMany v_soughtBy v_sought v_soughtAt v_foundMany v_foundOrder v_isKept v_imageRows v_imageColumns v_imageFolded v_imageWronged v_bodies v_ran v_ownKind v_ownNumber v_limit v_changeWas v_changeIs v_shapeRows v_shapeColumns v_row v_column v_below v_face v_worn v_lastBend v_tape v_text v_names v_bends v_high v_to v_pileSize v_planLine v_planWay v_way1 v_bestWay v_order1 v_placeIn v_bodyKind v_trace v_shelf v_many v_items v_carried) H → va_D A (wd_X9 cI cL cS cH a v_keptMany v_done v_rowsOf v_columnsOf v_folded v_wronged v_tapeMany v_textMany v_base v_at v_ends v_fault v_opened v_bentMany v_bentWrong v_moreWorn v_planned v_allWrong v_allWorn v_z v_wishedField v_isFound v_bestWrong v_bestWorn v_bestMany v_soughtBy v_sought v_soughtAt v_foundMany v_foundOrder v_isKept v_imageRows v_imageColumns v_imageFolded v_imageWronged v_bodies v_ran v_ownKind v_ownNumber v_limit v_changeWas v_changeIs v_shapeRows v_shapeColumns v_row v_column v_below v_face v_worn v_lastBend v_tape v_text v_names v_bends v_high v_to v_pileSize v_planLine v_planWay v_way1 v_bestWay v_order1 v_placeIn v_bodyKind v_trace v_shelf v_many v_items v_carried) → va_S A s.heap H locs → lv_has ls 5 [(0, .ref (a 0)), (1, .int x1), (2, .int x2)] → W p l e (mm_rr d) s m args below meth c H locs 0 0 (mm_Z below D A (wd_X9 cI cL cS cH a v_keptMany v_done v_rowsOf v_columnsOf v_folded v_wronged v_tapeMany v_textMany v_base w_at v_ends w_fault w_opened v_bentMany v_bentWrong v_moreWorn v_planned v_allWrong v_allWorn v_z v_wishedField v_isFound v_bestWrong v_bestWorn v_bestMany v_soughtBy v_sought v_soughtAt v_foundMany v_foundOrder v_isKept v_imageRows v_imageColumns v_imageFolded v_imageWronged v_bodies v_ran v_ownKind v_ownNumber v_limit v_changeWas v_changeIs v_shapeRows v_shapeColumns v_row v_column v_below v_face v_worn v_lastBend v_tape v_text v_names v_bends v_high v_to v_pileSize v_planLine v_planWay v_way1 v_bestWay v_order1 v_placeIn v_bodyKind v_trace v_shelf v_many v_items v_carried) (some (.int r)) args s) (F0 m 104 ls []) := by
  obtain ⟨hx, hb, hml, hown, hts, hr, hlocks, hK, hSt⟩ := id C0
  intro x1 x2 v_base v_at v_ends v_fault v_opened v_tape v_text v_names H locs ls hf hP hD hS hl
  unfold fX9_one_104 at hf
  refine lv_aload_n hx hb dX9_one_104 rfl (lv_at hl 0 rfl) ?_
  refine lv_dup hx hb dX9_one_105 rfl ?_
  refine mm_get C0 hP iw_X9 0 rfl rfl 25 (by decide) fl_X9_184 rfl dX9_one_106 ?_
  refine lv_iconst (v := 1) hx hb dX9_one_109 (by decide) ?_
  refine lv_isub hx hb dX9_one_110 ?_
  refine lv_topi (fun y_53 ey_53 => ?_)
  have hf := mm_nms hf ey_53
  refine mm_put C0 hP hD hS iw_X9 tyX9 tyX9_ok nmX9 0 rfl rfl 25 (by decide) fl_X9_184 rfl rfl rfl (Nat.le_of_ble_eq_true rfl) dX9_one_111 (w2 := (wd_X9 cI cL cS cH a v_keptMany v_done v_rowsOf v_columnsOf v_folded v_wronged v_tapeMany v_textMany v_base v_at v_ends v_fault y_53 v_bentMany v_bentWrong v_moreWorn v_planned v_allWrong v_allWorn v_z v_wishedField v_isFound v_bestWrong v_bestWorn v_bestMany v_soughtBy v_sought v_soughtAt v_foundMany v_foundOrder v_isKept v_imageRows v_imageColumns v_imageFolded v_imageWronged v_bodies v_ran v_ownKind v_ownNumber v_limit v_changeWas v_changeIs v_shapeRows v_shapeColumns v_row v_column v_below v_face v_worn v_lastBend v_tape v_text v_names v_bends v_high v_to v_pileSize v_planLine v_planWay v_way1 v_bestWay v_order1 v_placeIn v_bodyKind v_trace v_shelf v_many v_items v_carried)) rfl (fun H locs hP hD hS => ?_)
  refine lv_iload_n hx hb dX9_one_114 rfl (lv_at hl 1 rfl) ?_
  refine lv_bipush (v := 40) hx hb dX9_one_115 (by decide) ?_
  refine lv_icmp_ne (tgt := 124) hx hb dX9_one_117 (by decide) (fun c_54 => ?_) (fun c_54 => ?_)
  · have hf := mm_in hf c_54
    refine lv_iload_n hx hb dX9_one_124 rfl (lv_at hl 1 rfl) ?_
    refine lv_bipush (v := 45) hx hb dX9_one_125 (by decide) ?_
    refine lv_icmp_ne (tgt := 135) hx hb dX9_one_127 (by decide) (fun c_55 => ?_) (fun c_55 => ?_)
    · have hf := mm_in hf c_55
      refine lv_iload_n hx hb dX9_one_135 rfl (lv_at hl 2 rfl) ?_
      refine lv_if_ne (tgt := 143) hx hb dX9_one_136 (by decide) (fun c_56 => ?_) (fun c_56 => ?_)
      · have hf := mm_in hf c_56
        refine lv_iconst (v := 0) hx hb dX9_one_143 (by decide) ?_
        apply mm_sub4 hf
        exact mm_iret C0 hP hD hS dX9_one_144
      · have hf := mm_ip hf c_56
        refine lv_iconst (v := 1) hx hb dX9_one_139 (by decide) ?_
        refine lv_goto (tgt := 144) hx hb dX9_one_140 (by decide) ?_
        apply mm_sub4 hf
        exact mm_iret C0 hP hD hS dX9_one_144
    · have hf := mm_ip hf c_55
      refine lv_iload_n hx hb dX9_one_130 rfl (lv_at hl 2 rfl) ?_
      refine lv_ineg hx hb dX9_one_131 ?_
      refine lv_goto (tgt := 144) hx hb dX9_one_132 (by decide) ?_
      apply mm_sub4 hf
      exact mm_iret C0 hP hD hS dX9_one_144
  · have hf := mm_ip hf c_54
    refine lv_iload_n hx hb dX9_one_120 rfl (lv_at hl 2 rfl) ?_
    refine lv_goto (tgt := 144) hx hb dX9_one_121 (by decide) ?_
    apply mm_sub4 hf
    exact mm_iret C0 hP hD hS dX9_one_144

def fX9_one_83 (N : Nat) (go : Int32 → Int32 → Int32 → Int32 → Int32 → List Int32 → List Int32 → List Int32 → Option (Int32 × Int32 × Int32 × Int32))  (x1 : Int32) (s0 : Int32) (v_base : Int32) (v_at : Int32) (v_ends : Int32) (v_fault : Int32) (v_opened : Int32) (v_tape : List Int32) (v_text : List Int32) (v_names : List Int32) : Option (Int32 × Int32 × Int32 × Int32) :=
    if x1 = (40 : Int32) then
    (mm_bd2 (fX9_takes N (41 : Int32) v_base v_at v_ends v_fault v_tape v_text) (fun (r_46 : Bool) (w_47 : Int32) =>
    if r_46 = false then
    (mm_bd2 (fX9_wrong N w_47 v_fault) (fun (r_50 : Int32) (w_51 : Int32) =>
    some (r_50, w_47, w_51, v_opened)))
    else (fX9_one_104 N go x1 s0 v_base w_47 v_ends v_fault v_opened v_tape v_text v_names)))
    else (fX9_one_104 N go x1 s0 v_base v_at v_ends v_fault v_opened v_tape v_text v_names)

set_option maxHeartbeats 4000000 in
set_option maxRecDepth 100000 in
theorem tX9_one_83 {p : Program} {l : Launch} {e : Env} {s : State} {m : MethodId} {args : Array Value} {below : List Frame} {meth : Method} {c : Code} {D : va_G} {cI cL cS cH : ClassId} {A : Nat → Prop} {d : Nat} {a : Nat → Nat} {go : Int32 → Int32 → Int32 → Int32 → Int32 → List Int32 → List Int32 → List Int32 → Option (Int32 × Int32 × Int32 × Int32)} {dgo : Nat} (hgo : ∀ (a : Nat → Nat) (v_keptMany : Int32) (v_done : Int32) (v_rowsOf : Int32) (v_columnsOf : Int32) (v_folded : Int32) (v_wronged : Int32) (v_tapeMany : Int32) (v_textMany : Int32) (v_base : Int32) (v_at : Int32) (v_ends : Int32) (v_fault : Int32) (v_opened : Int32) (v_bentMany : Int32) (v_bentWrong : Int32) (v_moreWorn : Int32) (v_planned : Int32) (v_allWrong : Int32) (v_allWorn : Int32) (v_z : Int32) (v_wishedField : Int32) (v_isFound : Bool) (v_bestWrong : Int32) (v_bestWorn : Int32) (v_bestMany : Int32) (v_soughtBy : Int32) (v_sought : Int32) (v_soughtAt : Int32) (v_foundMany : Int32) (v_foundOrder : Int32) (v_isKept : Bool) (v_imageRows : Int32) (v_imageColumns : Int32) (v_imageFolded : Int32) (v_imageWronged : Int32) (v_bodies : Int32) (v_ran : Int32) (v_ownKind : Int32) (v_ownNumber : Int32) (v_limit : List Int32) (v_changeWas : List Int32) (v_changeIs : List Int32) (v_shapeRows : List Int32) (v_shapeColumns : List Int32) (v_row : List Int32) (v_column : List Int32) (v_below : List Int32) (v_face : List Int32) (v_worn : List Int32) (v_lastBend : List Int32) (v_tape : List Int32) (v_text : List Int32) (v_names : List Int32) (v_bends : List Int32) (v_high : List Int32) (v_to : List Int32) (v_pileSize : List Int32) (v_planLine : List Int32) (v_planWay : List Int32) (v_way1 : List Int32) (v_bestWay : List Int32) (v_order1 : List Int32) (v_placeIn : List Int32) (v_bodyKind : List Int32) (v_trace : List Int32) (v_shelf : List Int32) (v_many : List Int32) (v_items : List Int64) (v_carried : List Int64) (r : Int32) (w_at : Int32) (w_fault : Int32) (w_opened : Int32), go v_base v_at v_ends v_fault v_opened v_tape v_text v_names = some (r, w_at, w_fault, w_opened) → mm_Ct l yX9_one cX9_one 5 (some .int) dgo D (mm_T cI cL cS cH) [.ref (a 0)] (wd_X9 cI cL cS cH a v_keptMany v_done v_rowsOf v_columnsOf v_folded v_wronged v_tapeMany v_textMany v_base v_at v_ends v_fault v_opened v_bentMany v_bentWrong v_moreWorn v_planned v_allWrong v_allWorn v_z v_wishedField v_isFound v_bestWrong v_bestWorn v_bestMany v_soughtBy v_sought v_soughtAt v_foundMany v_foundOrder v_isKept v_imageRows v_imageColumns v_imageFolded v_imageWronged v_bodies v_ran v_ownKind v_ownNumber v_limit v_changeWas v_changeIs v_shapeRows v_shapeColumns v_row v_column v_below v_face v_worn v_lastBend v_tape v_text v_names v_bends v_high v_to v_pileSize v_planLine v_planWay v_way1 v_bestWay v_order1 v_placeIn v_bodyKind v_trace v_shelf v_many v_items v_carried) (wd_X9 cI cL cS cH a v_keptMany v_done v_rowsOf v_columnsOf v_folded v_wronged v_tapeMany v_textMany v_base w_at v_ends w_fault w_opened v_bentMany v_bentWrong v_moreWorn v_planned v_allWrong v_allWorn v_z v_wishedField v_isFound v_bestWrong v_bestWorn v_bestMany v_soughtBy v_sought v_soughtAt v_foundMany v_foundOrder v_isKept v_imageRows v_imageColumns v_imageFolded v_imageWronged v_bodies v_ran v_ownKind v_ownNumber v_limit v_changeWas v_changeIs v_shapeRows v_shapeColumns v_row v_column v_below v_face v_worn v_lastBend v_tape v_text v_names v_bends v_high v_to v_pileSize v_planLine v_planWay v_way1 v_bestWay v_order1 v_placeIn v_bodyKind v_trace v_shelf v_many v_items v_carried) (some (.int r))) (hE : 2 ≤ dgo) (hd : dgo + 6 ≤ d) (C0 : mm_Cx p s m args meth c RX9 cX9_one 5 (some .int) D (mm_T cI cL cS cH) A) (hA : ∀ q, s.heap.size ≤ q → A q) {v_keptMany : Int32} {v_done : Int32} {v_rowsOf : Int32} {v_columnsOf : Int32} {v_folded : Int32} {v_wronged : Int32} {v_tapeMany : Int32} {v_textMany : Int32} {v_bentMany : Int32} {v_bentWrong : Int32} {v_moreWorn : Int32} {v_planned : Int32} {v_allWrong : Int32} {v_allWorn : Int32} {v_z : Int32} {v_wishedField : Int32} {v_isFound : Bool} {v_bestWrong : Int32} {v_bestWorn : Int32} {v_bestMany : Int32} {v_soughtBy : Int32} {v_sought : Int32} {v_soughtAt : Int32} {v_foundMany : Int32} {v_foundOrder : Int32} {v_isKept : Bool} {v_imageRows : Int32} {v_imageColumns : Int32} {v_imageFolded : Int32} {v_imageWronged : Int32} {v_bodies : Int32} {v_ran : Int32} {v_ownKind : Int32} {v_ownNumber : Int32} {v_limit : List Int32} {v_changeWas : List Int32} {v_changeIs : List Int32} {v_shapeRows : List Int32} {v_shapeColumns : List Int32} {v_row : List Int32} {v_column : List Int32} {v_below : List Int32} {v_face : List Int32} {v_worn : List Int32} {v_lastBend : List Int32} {v_bends : List Int32} {v_high : List Int32} {v_to : List Int32} {v_pileSize : List Int32} {v_planLine : List Int32} {v_planWay : List Int32} {v_way1 : List Int32} {v_bestWay : List Int32} {v_order1 : List Int32} {v_placeIn : List Int32} {v_bodyKind : List Int32} {v_trace : List Int32} {v_shelf : List Int32} {v_many : List Int32} {v_items : List Int64} {v_carried : List Int64} {r : Int32} {w_at : Int32} {w_fault : Int32} {w_opened : Int32} (N : Nat)  : ∀ (x1 : Int32) (s0 : Int32) (v_base : Int32) (v_at : Int32) (v_ends : Int32) (v_fault : Int32) (v_opened : Int32) (v_tape : List Int32) (v_text : List Int32) (v_names : List Int32) (H : Heap) (locs : List Loc) (ls : Array Slot), fX9_one_83 N go x1 s0 v_base v_at v_ends v_fault v_opened v_tape v_text v_names = some (r, w_at, w_fault, w_opened) → va_P D mm_cl (wd_X9 cI cL cS cH a v_keptMany v_done v_rowsOf v_columnsOf v_folded v_wronged v_tapeMany v_textMany v_base v_at v_ends v_fault v_opened v_bentMany v_bentWrong v_moreWorn v_planned v_allWrong v_allWorn v_z v_wishedField v_isFound v_bestWrong v_bestWorn v_bestMany v_soughtBy v_sought v_soughtAt v_foundMany v_foundOrder v_isKept v_imageRows v_imageColumns v_imageFolded v_imageWronged v_bodies v_ran v_ownKind v_ownNumber v_limit v_changeWas v_changeIs v_shapeRows v_shapeColumns v_row v_column v_below v_face v_worn v_lastBend v_tape v_text v_names v_bends v_high v_to v_pileSize v_planLine v_planWay v_way1 v_bestWay v_order1 v_placeIn v_bodyKind v_trace v_shelf v_many v_items v_carried) H → va_D A (wd_X9 cI cL cS cH a v_keptMany v_done v_rowsOf v_columnsOf v_folded v_wronged v_tapeMany v_textMany v_base v_at v_ends v_fault v_opened v_bentMany v_bentWrong v_moreWorn v_planned v_allWrong v_allWorn v_z v_wishedField v_isFound v_bestWrong v_bestWorn v_bestMany v_soughtBy v_sought v_soughtAt v_foundMany v_foundOrder v_isKept v_imageRows v_imageColumns v_imageFolded v_imageWronged v_bodies v_ran v_ownKind v_ownNumber v_limit v_changeWas v_changeIs v_shapeRows v_shapeColumns v_row v_column v_below v_face v_worn v_lastBend v_tape v_text v_names v_bends v_high v_to v_pileSize v_planLine v_planWay v_way1 v_bestWay v_order1 v_placeIn v_bodyKind v_trace v_shelf v_many v_items v_carried) → va_S A s.heap H locs → lv_has ls 5 [(0, .ref (a 0)), (1, .int x1)] → W p l e (mm_rr d) s m args below meth c H locs 0 0 (mm_Z below D A (wd_X9 cI cL cS cH a v_keptMany v_done v_rowsOf v_columnsOf v_folded v_wronged v_tapeMany v_textMany v_base w_at v_ends w_fault w_opened v_bentMany v_bentWrong v_moreWorn v_planned v_allWrong v_allWorn v_z v_wishedField v_isFound v_bestWrong v_bestWorn v_bestMany v_soughtBy v_sought v_soughtAt v_foundMany v_foundOrder v_isKept v_imageRows v_imageColumns v_imageFolded v_imageWronged v_bodies v_ran v_ownKind v_ownNumber v_limit v_changeWas v_changeIs v_shapeRows v_shapeColumns v_row v_column v_below v_face v_worn v_lastBend v_tape v_text v_names v_bends v_high v_to v_pileSize v_planLine v_planWay v_way1 v_bestWay v_order1 v_placeIn v_bodyKind v_trace v_shelf v_many v_items v_carried) (some (.int r)) args s) (F0 m 83 ls [.int s0]) := by
  obtain ⟨hx, hb, hml, hown, hts, hr, hlocks, hK, hSt⟩ := id C0
  intro x1 s0 v_base v_at v_ends v_fault v_opened v_tape v_text v_names H locs ls hf hP hD hS hl
  unfold fX9_one_83 at hf
  refine lv_istore_n (lv' := [(2, .int s0), (0, .ref (a 0)), (1, .int x1)]) hx hb dX9_one_83 rfl hl (by decide) rfl (fun ls hl => ?_)
  refine lv_iload_n hx hb dX9_one_84 rfl (lv_at hl 2 rfl) ?_
  refine lv_bipush (v := 40) hx hb dX9_one_85 (by decide) ?_
  refine lv_icmp_ne (tgt := 104) hx hb dX9_one_87 (by decide) (fun c_45 => ?_) (fun c_45 => ?_)
  · have hf := mm_in hf c_45
    exact tX9_one_104 hgo hE hd C0 hA N  _ _ _ _ _ _ _ _ _ _ H locs ls hf hP hD hS (lv_sub hl [1, 2, 0] rfl)
  · have hf := mm_ip hf c_45
    refine lv_aload_n hx hb dX9_one_90 rfl (lv_at hl 1 rfl) ?_
    refine lv_bipush (v := 41) hx hb dX9_one_91 (by decide) ?_
    obtain ⟨r_46, w_47, hc_48, hf⟩ := mm_bd2s hf
    refine mm_callVF (q0 := 0) (ci := 9) (rest := []) C0 lk_X9_168 (ctX9_takes (a := a) (d := d - 1) (by omega) hc_48) (by omega) rfl hl.1 rfl (mm_cat rfl) dX9_one_93 hP hD hA hS rfl rfl (fun H locs hP hD hS => ?_)
    refine W.eq (g2 := F0 m 96 ls [.int (mm_b r_46)]) rfl ?_
    refine lv_if_ne (tgt := 104) hx hb dX9_one_96 (by decide) (fun c_49 => ?_) (fun c_49 => ?_)
    · have hf := mm_in hf (mm_b1 c_49)
      exact tX9_one_104 hgo hE hd C0 hA N  _ _ _ _ _ _ _ _ _ _ H locs ls hf hP hD hS (lv_sub hl [1, 2, 0] rfl)
    · have hf := mm_ip hf (mm_b0 c_49)
      refine lv_aload_n hx hb dX9_one_99 rfl (lv_at hl 1 rfl) ?_
      obtain ⟨r_50, w_51, hc_52, hf⟩ := mm_bd2s hf
      refine mm_callVF (q0 := 0) (ci := 9) (rest := []) C0 lk_X9_187 (ctX9_wrong (a := a) (d := d - 1) (by omega) hc_52) (by omega) rfl hl.1 rfl (mm_cat rfl) dX9_one_100 hP hD hA hS rfl rfl (fun H locs hP hD hS => ?_)
      refine W.eq (g2 := F0 m 103 ls [.int r_50]) rfl ?_
      apply mm_sub4 hf
      exact mm_iret C0 hP hD hS dX9_one_103

def fX9_one_32 (N : Nat) (go : Int32 → Int32 → Int32 → Int32 → Int32 → List Int32 → List Int32 → List Int32 → Option (Int32 × Int32 × Int32 × Int32))  (x1 : Int32) (v_base : Int32) (v_at : Int32) (v_ends : Int32) (v_fault : Int32) (v_opened : Int32) (v_tape : List Int32) (v_text : List Int32) (v_names : List Int32) : Option (Int32 × Int32 × Int32 × Int32) :=
    if v_opened = (6 : Int32) then
    (mm_bd2 (fX9_wrong N v_at v_fault) (fun (r_42 : Int32) (w_43 : Int32) =>
    some (r_42, v_at, w_43, v_opened)))
    else (mm_nm ((v_opened + (1 : Int32))) (fun (y_29 : Int32) =>
    mm_nm ((v_at + (1 : Int32))) (fun (y_30 : Int32) =>
    if x1 = (40 : Int32) then
    (mm_bd4 (fX9_either N go v_base y_30 v_ends v_fault y_29 v_tape v_text v_names) (fun (r_37 : Int32) (w_38 : Int32) (w_39 : Int32) (w_40 : Int32) =>
    fX9_one_83 N go x1 r_37 v_base w_38 v_ends w_39 w_40 v_tape v_text v_names))
    else (mm_bd4 (go v_base y_30 v_ends v_fault y_29 v_tape v_text v_names) (fun (r_32 : Int32) (w_33 : Int32) (w_34 : Int32) (w_35 : Int32) =>
    fX9_one_83 N go x1 r_32 v_base w_33 v_ends w_34 w_35 v_tape v_text v_names)))))

set_option maxHeartbeats 4000000 in
set_option maxRecDepth 100000 in
theorem tX9_one_32 {p : Program} {l : Launch} {e : Env} {s : State} {m : MethodId} {args : Array Value} {below : List Frame} {meth : Method} {c : Code} {D : va_G} {cI cL cS cH : ClassId} {A : Nat → Prop} {d : Nat} {a : Nat → Nat} {go : Int32 → Int32 → Int32 → Int32 → Int32 → List Int32 → List Int32 → List Int32 → Option (Int32 × Int32 × Int32 × Int32)} {dgo : Nat} (hgo : ∀ (a : Nat → Nat) (v_keptMany : Int32) (v_done : Int32) (v_rowsOf : Int32) (v_columnsOf : Int32) (v_folded : Int32) (v_wronged : Int32) (v_tapeMany : Int32) (v_textMany : Int32) (v_base : Int32) (v_at : Int32) (v_ends : Int32) (v_fault : Int32) (v_opened : Int32) (v_bentMany : Int32) (v_bentWrong : Int32) (v_moreWorn : Int32) (v_planned : Int32) (v_allWrong : Int32) (v_allWorn : Int32) (v_z : Int32) (v_wishedField : Int32) (v_isFound : Bool) (v_bestWrong : Int32) (v_bestWorn : Int32) (v_bestMany : Int32) (v_soughtBy : Int32) (v_sought : Int32) (v_soughtAt : Int32) (v_foundMany : Int32) (v_foundOrder : Int32) (v_isKept : Bool) (v_imageRows : Int32) (v_imageColumns : Int32) (v_imageFolded : Int32) (v_imageWronged : Int32) (v_bodies : Int32) (v_ran : Int32) (v_ownKind : Int32) (v_ownNumber : Int32) (v_limit : List Int32) (v_changeWas : List Int32) (v_changeIs : List Int32) (v_shapeRows : List Int32) (v_shapeColumns : List Int32) (v_row : List Int32) (v_column : List Int32) (v_below : List Int32) (v_face : List Int32) (v_worn : List Int32) (v_lastBend : List Int32) (v_tape : List Int32) (v_text : List Int32) (v_names : List Int32) (v_bends : List Int32) (v_high : List Int32) (v_to : List Int32) (v_pileSize : List Int32) (v_planLine : List Int32) (v_planWay : List Int32) (v_way1 : List Int32) (v_bestWay : List Int32) (v_order1 : List Int32) (v_placeIn : List Int32) (v_bodyKind : List Int32) (v_trace : List Int32) (v_shelf : List Int32) (v_many : List Int32) (v_items : List Int64) (v_carried : List Int64) (r : Int32) (w_at : Int32) (w_fault : Int32) (w_opened : Int32), go v_base v_at v_ends v_fault v_opened v_tape v_text v_names = some (r, w_at, w_fault, w_opened) → mm_Ct l yX9_one cX9_one 5 (some .int) dgo D (mm_T cI cL cS cH) [.ref (a 0)] (wd_X9 cI cL cS cH a v_keptMany v_done v_rowsOf v_columnsOf v_folded v_wronged v_tapeMany v_textMany v_base v_at v_ends v_fault v_opened v_bentMany v_bentWrong v_moreWorn v_planned v_allWrong v_allWorn v_z v_wishedField v_isFound v_bestWrong v_bestWorn v_bestMany v_soughtBy v_sought v_soughtAt v_foundMany v_foundOrder v_isKept v_imageRows v_imageColumns v_imageFolded v_imageWronged v_bodies v_ran v_ownKind v_ownNumber v_limit v_changeWas v_changeIs v_shapeRows v_shapeColumns v_row v_column v_below v_face v_worn v_lastBend v_tape v_text v_names v_bends v_high v_to v_pileSize v_planLine v_planWay v_way1 v_bestWay v_order1 v_placeIn v_bodyKind v_trace v_shelf v_many v_items v_carried) (wd_X9 cI cL cS cH a v_keptMany v_done v_rowsOf v_columnsOf v_folded v_wronged v_tapeMany v_textMany v_base w_at v_ends w_fault w_opened v_bentMany v_bentWrong v_moreWorn v_planned v_allWrong v_allWorn v_z v_wishedField v_isFound v_bestWrong v_bestWorn v_bestMany v_soughtBy v_sought v_soughtAt v_foundMany v_foundOrder v_isKept v_imageRows v_imageColumns v_imageFolded v_imageWronged v_bodies v_ran v_ownKind v_ownNumber v_limit v_changeWas v_changeIs v_shapeRows v_shapeColumns v_row v_column v_below v_face v_worn v_lastBend v_tape v_text v_names v_bends v_high v_to v_pileSize v_planLine v_planWay v_way1 v_bestWay v_order1 v_placeIn v_bodyKind v_trace v_shelf v_many v_items v_carried) (some (.int r))) (hE : 2 ≤ dgo) (hd : dgo + 6 ≤ d) (C0 : mm_Cx p s m args meth c RX9 cX9_one 5 (some .int) D (mm_T cI cL cS cH) A) (hA : ∀ q, s.heap.size ≤ q → A q) {v_keptMany : Int32} {v_done : Int32} {v_rowsOf : Int32} {v_columnsOf : Int32} {v_folded : Int32} {v_wronged : Int32} {v_tapeMany : Int32} {v_textMany : Int32} {v_bentMany : Int32} {v_bentWrong : Int32} {v_moreWorn : Int32} {v_planned : Int32} {v_allWrong : Int32} {v_allWorn : Int32} {v_z : Int32} {v_wishedField : Int32} {v_isFound : Bool} {v_bestWrong : Int32} {v_bestWorn : Int32} {v_bestMany : Int32} {v_soughtBy : Int32} {v_sought : Int32} {v_soughtAt : Int32} {v_foundMany : Int32} {v_foundOrder : Int32} {v_isKept : Bool} {v_imageRows : Int32} {v_imageColumns : Int32} {v_imageFolded : Int32} {v_imageWronged : Int32} {v_bodies : Int32} {v_ran : Int32} {v_ownKind : Int32} {v_ownNumber : Int32} {v_limit : List Int32} {v_changeWas : List Int32} {v_changeIs : List Int32} {v_shapeRows : List Int32} {v_shapeColumns : List Int32} {v_row : List Int32} {v_column : List Int32} {v_below : List Int32} {v_face : List Int32} {v_worn : List Int32} {v_lastBend : List Int32} {v_bends : List Int32} {v_high : List Int32} {v_to : List Int32} {v_pileSize : List Int32} {v_planLine : List Int32} {v_planWay : List Int32} {v_way1 : List Int32} {v_bestWay : List Int32} {v_order1 : List Int32} {v_placeIn : List Int32} {v_bodyKind : List Int32} {v_trace : List Int32} {v_shelf : List Int32} {v_many : List Int32} {v_items : List Int64} {v_carried : List Int64} {r : Int32} {w_at : Int32} {w_fault : Int32} {w_opened : Int32} (N : Nat)  : ∀ (x1 : Int32) (v_base : Int32) (v_at : Int32) (v_ends : Int32) (v_fault : Int32) (v_opened : Int32) (v_tape : List Int32) (v_text : List Int32) (v_names : List Int32) (H : Heap) (locs : List Loc) (ls : Array Slot), fX9_one_32 N go x1 v_base v_at v_ends v_fault v_opened v_tape v_text v_names = some (r, w_at, w_fault, w_opened) → va_P D mm_cl (wd_X9 cI cL cS cH a v_keptMany v_done v_rowsOf v_columnsOf v_folded v_wronged v_tapeMany v_textMany v_base v_at v_ends v_fault v_opened v_bentMany v_bentWrong v_moreWorn v_planned v_allWrong v_allWorn v_z v_wishedField v_isFound v_bestWrong v_bestWorn v_bestMany v_soughtBy v_sought v_soughtAt v_foundMany v_foundOrder v_isKept v_imageRows v_imageColumns v_imageFolded v_imageWronged v_bodies v_ran v_ownKind v_ownNumber v_limit v_changeWas v_changeIs v_shapeRows v_shapeColumns v_row v_column v_below v_face v_worn v_lastBend v_tape v_text v_names v_bends v_high v_to v_pileSize v_planLine v_planWay v_way1 v_bestWay v_order1 v_placeIn v_bodyKind v_trace v_shelf v_many v_items v_carried) H → va_D A (wd_X9 cI cL cS cH a v_keptMany v_done v_rowsOf v_columnsOf v_folded v_wronged v_tapeMany v_textMany v_base v_at v_ends v_fault v_opened v_bentMany v_bentWrong v_moreWorn v_planned v_allWrong v_allWorn v_z v_wishedField v_isFound v_bestWrong v_bestWorn v_bestMany v_soughtBy v_sought v_soughtAt v_foundMany v_foundOrder v_isKept v_imageRows v_imageColumns v_imageFolded v_imageWronged v_bodies v_ran v_ownKind v_ownNumber v_limit v_changeWas v_changeIs v_shapeRows v_shapeColumns v_row v_column v_below v_face v_worn v_lastBend v_tape v_text v_names v_bends v_high v_to v_pileSize v_planLine v_planWay v_way1 v_bestWay v_order1 v_placeIn v_bodyKind v_trace v_shelf v_many v_items v_carried) → va_S A s.heap H locs → lv_has ls 5 [(0, .ref (a 0)), (1, .int x1)] → W p l e (mm_rr d) s m args below meth c H locs 0 0 (mm_Z below D A (wd_X9 cI cL cS cH a v_keptMany v_done v_rowsOf v_columnsOf v_folded v_wronged v_tapeMany v_textMany v_base w_at v_ends w_fault w_opened v_bentMany v_bentWrong v_moreWorn v_planned v_allWrong v_allWorn v_z v_wishedField v_isFound v_bestWrong v_bestWorn v_bestMany v_soughtBy v_sought v_soughtAt v_foundMany v_foundOrder v_isKept v_imageRows v_imageColumns v_imageFolded v_imageWronged v_bodies v_ran v_ownKind v_ownNumber v_limit v_changeWas v_changeIs v_shapeRows v_shapeColumns v_row v_column v_below v_face v_worn v_lastBend v_tape v_text v_names v_bends v_high v_to v_pileSize v_planLine v_planWay v_way1 v_bestWay v_order1 v_placeIn v_bodyKind v_trace v_shelf v_many v_items v_carried) (some (.int r)) args s) (F0 m 32 ls []) := by
  obtain ⟨hx, hb, hml, hown, hts, hr, hlocks, hK, hSt⟩ := id C0
  intro x1 v_base v_at v_ends v_fault v_opened v_tape v_text v_names H locs ls hf hP hD hS hl
  unfold fX9_one_32 at hf
  refine lv_aload_n hx hb dX9_one_32 rfl (lv_at hl 0 rfl) ?_
  refine mm_get C0 hP iw_X9 0 rfl rfl 25 (by decide) fl_X9_184 rfl dX9_one_33 ?_
  refine lv_bipush (v := 6) hx hb dX9_one_36 (by decide) ?_
  refine lv_icmp_ne (tgt := 46) hx hb dX9_one_38 (by decide) (fun c_28 => ?_) (fun c_28 => ?_)
  · have hf := mm_in hf c_28
    refine lv_aload_n hx hb dX9_one_46 rfl (lv_at hl 0 rfl) ?_
    refine lv_dup hx hb dX9_one_47 rfl ?_
    refine mm_get C0 hP iw_X9 0 rfl rfl 25 (by decide) fl_X9_184 rfl dX9_one_48 ?_
    refine lv_iconst (v := 1) hx hb dX9_one_51 (by decide) ?_
    refine lv_iadd hx hb dX9_one_52 ?_
    refine lv_topi (fun y_29 ey_29 => ?_)
    have hf := mm_nms hf ey_29
    refine mm_put C0 hP hD hS iw_X9 tyX9 tyX9_ok nmX9 0 rfl rfl 25 (by decide) fl_X9_184 rfl rfl rfl (Nat.le_of_ble_eq_true rfl) dX9_one_53 (w2 := (wd_X9 cI cL cS cH a v_keptMany v_done v_rowsOf v_columnsOf v_folded v_wronged v_tapeMany v_textMany v_base v_at v_ends v_fault y_29 v_bentMany v_bentWrong v_moreWorn v_planned v_allWrong v_allWorn v_z v_wishedField v_isFound v_bestWrong v_bestWorn v_bestMany v_soughtBy v_sought v_soughtAt v_foundMany v_foundOrder v_isKept v_imageRows v_imageColumns v_imageFolded v_imageWronged v_bodies v_ran v_ownKind v_ownNumber v_limit v_changeWas v_changeIs v_shapeRows v_shapeColumns v_row v_column v_below v_face v_worn v_lastBend v_tape v_text v_names v_bends v_high v_to v_pileSize v_planLine v_planWay v_way1 v_bestWay v_order1 v_placeIn v_bodyKind v_trace v_shelf v_many v_items v_carried)) rfl (fun H locs hP hD hS => ?_)
    refine lv_aload_n hx hb dX9_one_56 rfl (lv_at hl 0 rfl) ?_
    refine lv_dup hx hb dX9_one_57 rfl ?_
    refine mm_get C0 hP iw_X9 0 rfl rfl 22 (by decide) fl_X9_150 rfl dX9_one_58 ?_
    refine lv_iconst (v := 1) hx hb dX9_one_61 (by decide) ?_
    refine lv_iadd hx hb dX9_one_62 ?_
    refine lv_topi (fun y_30 ey_30 => ?_)
    have hf := mm_nms hf ey_30
    refine mm_put C0 hP hD hS iw_X9 tyX9 tyX9_ok nmX9 0 rfl rfl 22 (by decide) fl_X9_150 rfl rfl rfl (Nat.le_of_ble_eq_true rfl) dX9_one_63 (w2 := (wd_X9 cI cL cS cH a v_keptMany v_done v_rowsOf v_columnsOf v_folded v_wronged v_tapeMany v_textMany v_base y_30 v_ends v_fault y_29 v_bentMany v_bentWrong v_moreWorn v_planned v_allWrong v_allWorn v_z v_wishedField v_isFound v_bestWrong v_bestWorn v_bestMany v_soughtBy v_sought v_soughtAt v_foundMany v_foundOrder v_isKept v_imageRows v_imageColumns v_imageFolded v_imageWronged v_bodies v_ran v_ownKind v_ownNumber v_limit v_changeWas v_changeIs v_shapeRows v_shapeColumns v_row v_column v_below v_face v_worn v_lastBend v_tape v_text v_names v_bends v_high v_to v_pileSize v_planLine v_planWay v_way1 v_bestWay v_order1 v_placeIn v_bodyKind v_trace v_shelf v_many v_items v_carried)) rfl (fun H locs hP hD hS => ?_)
    refine lv_iload_n hx hb dX9_one_66 rfl (lv_at hl 1 rfl) ?_
    refine lv_bipush (v := 40) hx hb dX9_one_67 (by decide) ?_
    refine lv_icmp_ne (tgt := 79) hx hb dX9_one_69 (by decide) (fun c_31 => ?_) (fun c_31 => ?_)
    · have hf := mm_in hf c_31
      refine lv_aload_n hx hb dX9_one_79 rfl (lv_at hl 0 rfl) ?_
      obtain ⟨r_32, w_33, w_34, w_35, hc_36, hf⟩ := mm_bd4s hf
      refine mm_callVF (q0 := 0) (ci := 9) (rest := []) C0 lk_X9_181 (hgo a _ _ _ _ _ _ _ _ _ _ _ _ _ _ _ _ _ _ _ _ _ _ _ _ _ _ _ _ _ _ _ _ _ _ _ _ _ _ _ _ _ _ _ _ _ _ _ _ _ _ _ _ _ _ _ _ _ _ _ _ _ _ _ _ _ _ _ _ _ _ _ _ _ hc_36) (by omega) rfl hl.1 rfl (mm_cat rfl) dX9_one_80 hP hD hA hS rfl rfl (fun H locs hP hD hS => ?_)
      refine W.eq (g2 := F0 m 83 ls [.int r_32]) rfl ?_
      exact tX9_one_83 hgo hE hd C0 hA N  _ _ _ _ _ _ _ _ _ _ H locs ls hf hP hD hS (lv_sub hl [0, 1] rfl)
    · have hf := mm_ip hf c_31
      refine lv_aload_n hx hb dX9_one_72 rfl (lv_at hl 0 rfl) ?_
      obtain ⟨r_37, w_38, w_39, w_40, hc_41, hf⟩ := mm_bd4s hf
      refine mm_callVF (q0 := 0) (ci := 9) (rest := []) C0 lk_X9_190 (ctX9_either (a := a) (d := d - 1) hgo hE (by omega) hc_41) (by omega) rfl hl.1 rfl (mm_cat rfl) dX9_one_73 hP hD hA hS rfl rfl (fun H locs hP hD hS => ?_)
      refine W.eq (g2 := F0 m 76 ls [.int r_37]) rfl ?_
      refine lv_goto (tgt := 83) hx hb dX9_one_76 (by decide) ?_
      exact tX9_one_83 hgo hE hd C0 hA N  _ _ _ _ _ _ _ _ _ _ H locs ls hf hP hD hS (lv_sub hl [0, 1] rfl)
  · have hf := mm_ip hf c_28
    refine lv_aload_n hx hb dX9_one_41 rfl (lv_at hl 0 rfl) ?_
    obtain ⟨r_42, w_43, hc_44, hf⟩ := mm_bd2s hf
    refine mm_callVF (q0 := 0) (ci := 9) (rest := []) C0 lk_X9_187 (ctX9_wrong (a := a) (d := d - 1) (by omega) hc_44) (by omega) rfl hl.1 rfl (mm_cat rfl) dX9_one_42 hP hD hA hS rfl rfl (fun H locs hP hD hS => ?_)
    refine W.eq (g2 := F0 m 45 ls [.int r_42]) rfl ?_
    apply mm_sub4 hf
    exact mm_iret C0 hP hD hS dX9_one_45

def fX9_one_229 (N : Nat) (go : Int32 → Int32 → Int32 → Int32 → Int32 → List Int32 → List Int32 → List Int32 → Option (Int32 × Int32 × Int32 × Int32))  (x3 : Int32) (x4 : Int32) (v_base : Int32) (v_at : Int32) (v_ends : Int32) (v_fault : Int32) (v_opened : Int32) (v_tape : List Int32) (v_text : List Int32) (v_names : List Int32) : Option (Int32 × Int32 × Int32 × Int32) :=
    if x4 = 0 then
    (mm_bd2 (fX9_wrong N v_at v_fault) (fun (r_25 : Int32) (w_26 : Int32) =>
    some (r_25, v_at, w_26, v_opened)))
    else (some (x3, v_at, v_fault, v_opened))

set_option maxHeartbeats 4000000 in
set_option maxRecDepth 100000 in
theorem tX9_one_229 {p : Program} {l : Launch} {e : Env} {s : State} {m : MethodId} {args : Array Value} {below : List Frame} {meth : Method} {c : Code} {D : va_G} {cI cL cS cH : ClassId} {A : Nat → Prop} {d : Nat} {a : Nat → Nat} {go : Int32 → Int32 → Int32 → Int32 → Int32 → List Int32 → List Int32 → List Int32 → Option (Int32 × Int32 × Int32 × Int32)} {dgo : Nat} (hgo : ∀ (a : Nat → Nat) (v_keptMany : Int32) (v_done : Int32) (v_rowsOf : Int32) (v_columnsOf : Int32) (v_folded : Int32) (v_wronged : Int32) (v_tapeMany : Int32) (v_textMany : Int32) (v_base : Int32) (v_at : Int32) (v_ends : Int32) (v_fault : Int32) (v_opened : Int32) (v_bentMany : Int32) (v_bentWrong : Int32) (v_moreWorn : Int32) (v_planned : Int32) (v_allWrong : Int32) (v_allWorn : Int32) (v_z : Int32) (v_wishedField : Int32) (v_isFound : Bool) (v_bestWrong : Int32) (v_bestWorn : Int32) (v_bestMany : Int32) (v_soughtBy : Int32) (v_sought : Int32) (v_soughtAt : Int32) (v_foundMany : Int32) (v_foundOrder : Int32) (v_isKept : Bool) (v_imageRows : Int32) (v_imageColumns : Int32) (v_imageFolded : Int32) (v_imageWronged : Int32) (v_bodies : Int32) (v_ran : Int32) (v_ownKind : Int32) (v_ownNumber : Int32) (v_limit : List Int32) (v_changeWas : List Int32) (v_changeIs : List Int32) (v_shapeRows : List Int32) (v_shapeColumns : List Int32) (v_row : List Int32) (v_column : List Int32) (v_below : List Int32) (v_face : List Int32) (v_worn : List Int32) (v_lastBend : List Int32) (v_tape : List Int32) (v_text : List Int32) (v_names : List Int32) (v_bends : List Int32) (v_high : List Int32) (v_to : List Int32) (v_pileSize : List Int32) (v_planLine : List Int32) (v_planWay : List Int32) (v_way1 : List Int32) (v_bestWay : List Int32) (v_order1 : List Int32) (v_placeIn : List Int32) (v_bodyKind : List Int32) (v_trace : List Int32) (v_shelf : List Int32) (v_many : List Int32) (v_items : List Int64) (v_carried : List Int64) (r : Int32) (w_at : Int32) (w_fault : Int32) (w_opened : Int32), go v_base v_at v_ends v_fault v_opened v_tape v_text v_names = some (r, w_at, w_fault, w_opened) → mm_Ct l yX9_one cX9_one 5 (some .int) dgo D (mm_T cI cL cS cH) [.ref (a 0)] (wd_X9 cI cL cS cH a v_keptMany v_done v_rowsOf v_columnsOf v_folded v_wronged v_tapeMany v_textMany v_base v_at v_ends v_fault v_opened v_bentMany v_bentWrong v_moreWorn v_planned v_allWrong v_allWorn v_z v_wishedField v_isFound v_bestWrong v_bestWorn v_bestMany v_soughtBy v_sought v_soughtAt v_foundMany v_foundOrder v_isKept v_imageRows v_imageColumns v_imageFolded v_imageWronged v_bodies v_ran v_ownKind v_ownNumber v_limit v_changeWas v_changeIs v_shapeRows v_shapeColumns v_row v_column v_below v_face v_worn v_lastBend v_tape v_text v_names v_bends v_high v_to v_pileSize v_planLine v_planWay v_way1 v_bestWay v_order1 v_placeIn v_bodyKind v_trace v_shelf v_many v_items v_carried) (wd_X9 cI cL cS cH a v_keptMany v_done v_rowsOf v_columnsOf v_folded v_wronged v_tapeMany v_textMany v_base w_at v_ends w_fault w_opened v_bentMany v_bentWrong v_moreWorn v_planned v_allWrong v_allWorn v_z v_wishedField v_isFound v_bestWrong v_bestWorn v_bestMany v_soughtBy v_sought v_soughtAt v_foundMany v_foundOrder v_isKept v_imageRows v_imageColumns v_imageFolded v_imageWronged v_bodies v_ran v_ownKind v_ownNumber v_limit v_changeWas v_changeIs v_shapeRows v_shapeColumns v_row v_column v_below v_face v_worn v_lastBend v_tape v_text v_names v_bends v_high v_to v_pileSize v_planLine v_planWay v_way1 v_bestWay v_order1 v_placeIn v_bodyKind v_trace v_shelf v_many v_items v_carried) (some (.int r))) (hE : 2 ≤ dgo) (hd : dgo + 6 ≤ d) (C0 : mm_Cx p s m args meth c RX9 cX9_one 5 (some .int) D (mm_T cI cL cS cH) A) (hA : ∀ q, s.heap.size ≤ q → A q) {v_keptMany : Int32} {v_done : Int32} {v_rowsOf : Int32} {v_columnsOf : Int32} {v_folded : Int32} {v_wronged : Int32} {v_tapeMany : Int32} {v_textMany : Int32} {v_bentMany : Int32} {v_bentWrong : Int32} {v_moreWorn : Int32} {v_planned : Int32} {v_allWrong : Int32} {v_allWorn : Int32} {v_z : Int32} {v_wishedField : Int32} {v_isFound : Bool} {v_bestWrong : Int32} {v_bestWorn : Int32} {v_bestMany : Int32} {v_soughtBy : Int32} {v_sought : Int32} {v_soughtAt : Int32} {v_foundMany : Int32} {v_foundOrder : Int32} {v_isKept : Bool} {v_imageRows : Int32} {v_imageColumns : Int32} {v_imageFolded : Int32} {v_imageWronged : Int32} {v_bodies : Int32} {v_ran : Int32} {v_ownKind : Int32} {v_ownNumber : Int32} {v_limit : List Int32} {v_changeWas : List Int32} {v_changeIs : List Int32} {v_shapeRows : List Int32} {v_shapeColumns : List Int32} {v_row : List Int32} {v_column : List Int32} {v_below : List Int32} {v_face : List Int32} {v_worn : List Int32} {v_lastBend : List Int32} {v_bends : List Int32} {v_high : List Int32} {v_to : List Int32} {v_pileSize : List Int32} {v_planLine : List Int32} {v_planWay : List Int32} {v_way1 : List Int32} {v_bestWay : List Int32} {v_order1 : List Int32} {v_placeIn : List Int32} {v_bodyKind : List Int32} {v_trace : List Int32} {v_shelf : List Int32} {v_many : List Int32} {v_items : List Int64} {v_carried : List Int64} {r : Int32} {w_at : Int32} {w_fault : Int32} {w_opened : Int32} (N : Nat)  : ∀ (x3 : Int32) (x4 : Int32) (v_base : Int32) (v_at : Int32) (v_ends : Int32) (v_fault : Int32) (v_opened : Int32) (v_tape : List Int32) (v_text : List Int32) (v_names : List Int32) (H : Heap) (locs : List Loc) (ls : Array Slot), fX9_one_229 N go x3 x4 v_base v_at v_ends v_fault v_opened v_tape v_text v_names = some (r, w_at, w_fault, w_opened) → va_P D mm_cl (wd_X9 cI cL cS cH a v_keptMany v_done v_rowsOf v_columnsOf v_folded v_wronged v_tapeMany v_textMany v_base v_at v_ends v_fault v_opened v_bentMany v_bentWrong v_moreWorn v_planned v_allWrong v_allWorn v_z v_wishedField v_isFound v_bestWrong v_bestWorn v_bestMany v_soughtBy v_sought v_soughtAt v_foundMany v_foundOrder v_isKept v_imageRows v_imageColumns v_imageFolded v_imageWronged v_bodies v_ran v_ownKind v_ownNumber v_limit v_changeWas v_changeIs v_shapeRows v_shapeColumns v_row v_column v_below v_face v_worn v_lastBend v_tape v_text v_names v_bends v_high v_to v_pileSize v_planLine v_planWay v_way1 v_bestWay v_order1 v_placeIn v_bodyKind v_trace v_shelf v_many v_items v_carried) H → va_D A (wd_X9 cI cL cS cH a v_keptMany v_done v_rowsOf v_columnsOf v_folded v_wronged v_tapeMany v_textMany v_base v_at v_ends v_fault v_opened v_bentMany v_bentWrong v_moreWorn v_planned v_allWrong v_allWorn v_z v_wishedField v_isFound v_bestWrong v_bestWorn v_bestMany v_soughtBy v_sought v_soughtAt v_foundMany v_foundOrder v_isKept v_imageRows v_imageColumns v_imageFolded v_imageWronged v_bodies v_ran v_ownKind v_ownNumber v_limit v_changeWas v_changeIs v_shapeRows v_shapeColumns v_row v_column v_below v_face v_worn v_lastBend v_tape v_text v_names v_bends v_high v_to v_pileSize v_planLine v_planWay v_way1 v_bestWay v_order1 v_placeIn v_bodyKind v_trace v_shelf v_many v_items v_carried) → va_S A s.heap H locs → lv_has ls 5 [(0, .ref (a 0)), (3, .int x3), (4, .int x4)] → W p l e (mm_rr d) s m args below meth c H locs 0 0 (mm_Z below D A (wd_X9 cI cL cS cH a v_keptMany v_done v_rowsOf v_columnsOf v_folded v_wronged v_tapeMany v_textMany v_base w_at v_ends w_fault w_opened v_bentMany v_bentWrong v_moreWorn v_planned v_allWrong v_allWorn v_z v_wishedField v_isFound v_bestWrong v_bestWorn v_bestMany v_soughtBy v_sought v_soughtAt v_foundMany v_foundOrder v_isKept v_imageRows v_imageColumns v_imageFolded v_imageWronged v_bodies v_ran v_ownKind v_ownNumber v_limit v_changeWas v_changeIs v_shapeRows v_shapeColumns v_row v_column v_below v_face v_worn v_lastBend v_tape v_text v_names v_bends v_high v_to v_pileSize v_planLine v_planWay v_way1 v_bestWay v_order1 v_placeIn v_bodyKind v_trace v_shelf v_many v_items v_carried) (some (.int r)) args s) (F0 m 229 ls []) := by
  obtain ⟨hx, hb, hml, hown, hts, hr, hlocks, hK, hSt⟩ := id C0
  intro x3 x4 v_base v_at v_ends v_fault v_opened v_tape v_text v_names H locs ls hf hP hD hS hl
  unfold fX9_one_229 at hf
  refine lv_iload hx hb dX9_one_229 (lv_at hl 2 rfl) ?_
  refine lv_if_ne (tgt := 241) hx hb dX9_one_231 (by decide) (fun c_24 => ?_) (fun c_24 => ?_)
  · have hf := mm_in hf c_24
    refine lv_iload_n hx hb dX9_one_241 rfl (lv_at hl 1 rfl) ?_
    apply mm_sub4 hf
    exact mm_iret C0 hP hD hS dX9_one_242
  · have hf := mm_ip hf c_24
    refine lv_aload_n hx hb dX9_one_234 rfl (lv_at hl 0 rfl) ?_
    obtain ⟨r_25, w_26, hc_27, hf⟩ := mm_bd2s hf
    refine mm_callVF (q0 := 0) (ci := 9) (rest := []) C0 lk_X9_187 (ctX9_wrong (a := a) (d := d - 1) (by omega) hc_27) (by omega) rfl hl.1 rfl (mm_cat rfl) dX9_one_235 hP hD hA hS rfl rfl (fun H locs hP hD hS => ?_)
    refine W.eq (g2 := F0 m 238 ls [.int r_25]) rfl ?_
    refine lv_goto (tgt := 242) hx hb dX9_one_238 (by decide) ?_
    apply mm_sub4 hf
    exact mm_iret C0 hP hD hS dX9_one_242

def fX9_one_176 (N : Nat) (go : Int32 → Int32 → Int32 → Int32 → Int32 → List Int32 → List Int32 → List Int32 → Option (Int32 × Int32 × Int32 × Int32))  : Nat → Int32 → Int32 → Int32 → Int32 → Int32 → Int32 → Int32 → List Int32 → List Int32 → List Int32 → Option (Int32 × Int32 × Int32 × Int32)
  | 0 => fun _ _ _ _ _ _ _ _ _ _ => none
  | n + 1 => fun x3 x4 v_base v_at v_ends v_fault v_opened v_tape v_text v_names =>
    if (4 : Int32) ≤ x4 then
    (fX9_one_229 N go x3 x4 v_base v_at v_ends v_fault v_opened v_tape v_text v_names)
    else (mm_bd1 (fX9_byteAt N v_base v_at v_ends v_tape v_text) (fun (r_13 : Int32) =>
    if r_13 < (48 : Int32) then
    (fX9_one_229 N go x3 x4 v_base v_at v_ends v_fault v_opened v_tape v_text v_names)
    else (mm_bd1 (fX9_byteAt N v_base v_at v_ends v_tape v_text) (fun (r_16 : Int32) =>
    if (57 : Int32) < r_16 then
    (fX9_one_229 N go x3 x4 v_base v_at v_ends v_fault v_opened v_tape v_text v_names)
    else (mm_bd1 (fX9_byteAt N v_base v_at v_ends v_tape v_text) (fun (r_19 : Int32) =>
    mm_nm (((((10 : Int32) * x3) + r_19) - (48 : Int32))) (fun (y_21 : Int32) =>
    mm_nm (x4 + (1 : Int32)) (fun (y_22 : Int32) =>
    mm_nm ((v_at + (1 : Int32))) (fun (y_23 : Int32) =>
    fX9_one_176 N go n y_21 y_22 v_base y_23 v_ends v_fault v_opened v_tape v_text v_names)))))))))

set_option maxHeartbeats 4000000 in
set_option maxRecDepth 100000 in
theorem tX9_one_176 {p : Program} {l : Launch} {e : Env} {s : State} {m : MethodId} {args : Array Value} {below : List Frame} {meth : Method} {c : Code} {D : va_G} {cI cL cS cH : ClassId} {A : Nat → Prop} {d : Nat} {a : Nat → Nat} {go : Int32 → Int32 → Int32 → Int32 → Int32 → List Int32 → List Int32 → List Int32 → Option (Int32 × Int32 × Int32 × Int32)} {dgo : Nat} (hgo : ∀ (a : Nat → Nat) (v_keptMany : Int32) (v_done : Int32) (v_rowsOf : Int32) (v_columnsOf : Int32) (v_folded : Int32) (v_wronged : Int32) (v_tapeMany : Int32) (v_textMany : Int32) (v_base : Int32) (v_at : Int32) (v_ends : Int32) (v_fault : Int32) (v_opened : Int32) (v_bentMany : Int32) (v_bentWrong : Int32) (v_moreWorn : Int32) (v_planned : Int32) (v_allWrong : Int32) (v_allWorn : Int32) (v_z : Int32) (v_wishedField : Int32) (v_isFound : Bool) (v_bestWrong : Int32) (v_bestWorn : Int32) (v_bestMany : Int32) (v_soughtBy : Int32) (v_sought : Int32) (v_soughtAt : Int32) (v_foundMany : Int32) (v_foundOrder : Int32) (v_isKept : Bool) (v_imageRows : Int32) (v_imageColumns : Int32) (v_imageFolded : Int32) (v_imageWronged : Int32) (v_bodies : Int32) (v_ran : Int32) (v_ownKind : Int32) (v_ownNumber : Int32) (v_limit : List Int32) (v_changeWas : List Int32) (v_changeIs : List Int32) (v_shapeRows : List Int32) (v_shapeColumns : List Int32) (v_row : List Int32) (v_column : List Int32) (v_below : List Int32) (v_face : List Int32) (v_worn : List Int32) (v_lastBend : List Int32) (v_tape : List Int32) (v_text : List Int32) (v_names : List Int32) (v_bends : List Int32) (v_high : List Int32) (v_to : List Int32) (v_pileSize : List Int32) (v_planLine : List Int32) (v_planWay : List Int32) (v_way1 : List Int32) (v_bestWay : List Int32) (v_order1 : List Int32) (v_placeIn : List Int32) (v_bodyKind : List Int32) (v_trace : List Int32) (v_shelf : List Int32) (v_many : List Int32) (v_items : List Int64) (v_carried : List Int64) (r : Int32) (w_at : Int32) (w_fault : Int32) (w_opened : Int32), go v_base v_at v_ends v_fault v_opened v_tape v_text v_names = some (r, w_at, w_fault, w_opened) → mm_Ct l yX9_one cX9_one 5 (some .int) dgo D (mm_T cI cL cS cH) [.ref (a 0)] (wd_X9 cI cL cS cH a v_keptMany v_done v_rowsOf v_columnsOf v_folded v_wronged v_tapeMany v_textMany v_base v_at v_ends v_fault v_opened v_bentMany v_bentWrong v_moreWorn v_planned v_allWrong v_allWorn v_z v_wishedField v_isFound v_bestWrong v_bestWorn v_bestMany v_soughtBy v_sought v_soughtAt v_foundMany v_foundOrder v_isKept v_imageRows v_imageColumns v_imageFolded v_imageWronged v_bodies v_ran v_ownKind v_ownNumber v_limit v_changeWas v_changeIs v_shapeRows v_shapeColumns v_row v_column v_below v_face v_worn v_lastBend v_tape v_text v_names v_bends v_high v_to v_pileSize v_planLine v_planWay v_way1 v_bestWay v_order1 v_placeIn v_bodyKind v_trace v_shelf v_many v_items v_carried) (wd_X9 cI cL cS cH a v_keptMany v_done v_rowsOf v_columnsOf v_folded v_wronged v_tapeMany v_textMany v_base w_at v_ends w_fault w_opened v_bentMany v_bentWrong v_moreWorn v_planned v_allWrong v_allWorn v_z v_wishedField v_isFound v_bestWrong v_bestWorn v_bestMany v_soughtBy v_sought v_soughtAt v_foundMany v_foundOrder v_isKept v_imageRows v_imageColumns v_imageFolded v_imageWronged v_bodies v_ran v_ownKind v_ownNumber v_limit v_changeWas v_changeIs v_shapeRows v_shapeColumns v_row v_column v_below v_face v_worn v_lastBend v_tape v_text v_names v_bends v_high v_to v_pileSize v_planLine v_planWay v_way1 v_bestWay v_order1 v_placeIn v_bodyKind v_trace v_shelf v_many v_items v_carried) (some (.int r))) (hE : 2 ≤ dgo) (hd : dgo + 6 ≤ d) (C0 : mm_Cx p s m args meth c RX9 cX9_one 5 (some .int) D (mm_T cI cL cS cH) A) (hA : ∀ q, s.heap.size ≤ q → A q) {v_keptMany : Int32} {v_done : Int32} {v_rowsOf : Int32} {v_columnsOf : Int32} {v_folded : Int32} {v_wronged : Int32} {v_tapeMany : Int32} {v_textMany : Int32} {v_bentMany : Int32} {v_bentWrong : Int32} {v_moreWorn : Int32} {v_planned : Int32} {v_allWrong : Int32} {v_allWorn : Int32} {v_z : Int32} {v_wishedField : Int32} {v_isFound : Bool} {v_bestWrong : Int32} {v_bestWorn : Int32} {v_bestMany : Int32} {v_soughtBy : Int32} {v_sought : Int32} {v_soughtAt : Int32} {v_foundMany : Int32} {v_foundOrder : Int32} {v_isKept : Bool} {v_imageRows : Int32} {v_imageColumns : Int32} {v_imageFolded : Int32} {v_imageWronged : Int32} {v_bodies : Int32} {v_ran : Int32} {v_ownKind : Int32} {v_ownNumber : Int32} {v_limit : List Int32} {v_changeWas : List Int32} {v_changeIs : List Int32} {v_shapeRows : List Int32} {v_shapeColumns : List Int32} {v_row : List Int32} {v_column : List Int32} {v_below : List Int32} {v_face : List Int32} {v_worn : List Int32} {v_lastBend : List Int32} {v_bends : List Int32} {v_high : List Int32} {v_to : List Int32} {v_pileSize : List Int32} {v_planLine : List Int32} {v_planWay : List Int32} {v_way1 : List Int32} {v_bestWay : List Int32} {v_order1 : List Int32} {v_placeIn : List Int32} {v_bodyKind : List Int32} {v_trace : List Int32} {v_shelf : List Int32} {v_many : List Int32} {v_items : List Int64} {v_carried : List Int64} {r : Int32} {w_at : Int32} {w_fault : Int32} {w_opened : Int32} (N : Nat)  : ∀ (n : Nat), ∀ (x3 : Int32) (x4 : Int32) (v_base : Int32) (v_at : Int32) (v_ends : Int32) (v_fault : Int32) (v_opened : Int32) (v_tape : List Int32) (v_text : List Int32) (v_names : List Int32) (H : Heap) (locs : List Loc) (ls : Array Slot), fX9_one_176 N go n x3 x4 v_base v_at v_ends v_fault v_opened v_tape v_text v_names = some (r, w_at, w_fault, w_opened) → va_P D mm_cl (wd_X9 cI cL cS cH a v_keptMany v_done v_rowsOf v_columnsOf v_folded v_wronged v_tapeMany v_textMany v_base v_at v_ends v_fault v_opened v_bentMany v_bentWrong v_moreWorn v_planned v_allWrong v_allWorn v_z v_wishedField v_isFound v_bestWrong v_bestWorn v_bestMany v_soughtBy v_sought v_soughtAt v_foundMany v_foundOrder v_isKept v_imageRows v_imageColumns v_imageFolded v_imageWronged v_bodies v_ran v_ownKind v_ownNumber v_limit v_changeWas v_changeIs v_shapeRows v_shapeColumns v_row v_column v_below v_face v_worn v_lastBend v_tape v_text v_names v_bends v_high v_to v_pileSize v_planLine v_planWay v_way1 v_bestWay v_order1 v_placeIn v_bodyKind v_trace v_shelf v_many v_items v_carried) H → va_D A (wd_X9 cI cL cS cH a v_keptMany v_done v_rowsOf v_columnsOf v_folded v_wronged v_tapeMany v_textMany v_base v_at v_ends v_fault v_opened v_bentMany v_bentWrong v_moreWorn v_planned v_allWrong v_allWorn v_z v_wishedField v_isFound v_bestWrong v_bestWorn v_bestMany v_soughtBy v_sought v_soughtAt v_foundMany v_foundOrder v_isKept v_imageRows v_imageColumns v_imageFolded v_imageWronged v_bodies v_ran v_ownKind v_ownNumber v_limit v_changeWas v_changeIs v_shapeRows v_shapeColumns v_row v_column v_below v_face v_worn v_lastBend v_tape v_text v_names v_bends v_high v_to v_pileSize v_planLine v_planWay v_way1 v_bestWay v_order1 v_placeIn v_bodyKind v_trace v_shelf v_many v_items v_carried) → va_S A s.heap H locs → lv_has ls 5 [(0, .ref (a 0)), (3, .int x3), (4, .int x4)] → W p l e (mm_rr d) s m args below meth c H locs 0 0 (mm_Z below D A (wd_X9 cI cL cS cH a v_keptMany v_done v_rowsOf v_columnsOf v_folded v_wronged v_tapeMany v_textMany v_base w_at v_ends w_fault w_opened v_bentMany v_bentWrong v_moreWorn v_planned v_allWrong v_allWorn v_z v_wishedField v_isFound v_bestWrong v_bestWorn v_bestMany v_soughtBy v_sought v_soughtAt v_foundMany v_foundOrder v_isKept v_imageRows v_imageColumns v_imageFolded v_imageWronged v_bodies v_ran v_ownKind v_ownNumber v_limit v_changeWas v_changeIs v_shapeRows v_shapeColumns v_row v_column v_below v_face v_worn v_lastBend v_tape v_text v_names v_bends v_high v_to v_pileSize v_planLine v_planWay v_way1 v_bestWay v_order1 v_placeIn v_bodyKind v_trace v_shelf v_many v_items v_carried) (some (.int r)) args s) (F0 m 176 ls []) := by
  obtain ⟨hx, hb, hml, hown, hts, hr, hlocks, hK, hSt⟩ := id C0
  intro n
  induction n with
  | zero =>
    intro x3 x4 v_base v_at v_ends v_fault v_opened v_tape v_text v_names H locs ls hf
    cases (show none = some _ from hf)
  | succ n ih =>
    intro x3 x4 v_base v_at v_ends v_fault v_opened v_tape v_text v_names H locs ls hf hP hD hS hl
    unfold fX9_one_176 at hf
    refine lv_iload hx hb dX9_one_176 (lv_at hl 2 rfl) ?_
    refine lv_iconst (v := 4) hx hb dX9_one_178 (by decide) ?_
    refine lv_icmp_ge (tgt := 229) hx hb dX9_one_179 (by decide) (fun c_12 => ?_) (fun c_12 => ?_)
    · have hf := mm_ip hf c_12
      exact tX9_one_229 hgo hE hd C0 hA N  _ _ _ _ _ _ _ _ _ _ H locs ls hf hP hD hS (lv_sub hl [0, 1, 2] rfl)
    · have hf := mm_in hf c_12
      refine lv_aload_n hx hb dX9_one_182 rfl (lv_at hl 0 rfl) ?_
      obtain ⟨r_13, hc_14, hf⟩ := mm_bd1s hf
      refine mm_callVF (q0 := 0) (ci := 9) (rest := []) C0 lk_X9_162 (ctX9_byteAt (a := a) (d := d - 1) (by omega) hc_14) (by omega) rfl hl.1 rfl (mm_cat rfl) dX9_one_183 hP hD hA hS rfl rfl (fun H locs hP hD hS => ?_)
      refine W.eq (g2 := F0 m 186 ls [.int r_13]) rfl ?_
      refine lv_bipush (v := 48) hx hb dX9_one_186 (by decide) ?_
      refine lv_icmp_lt (tgt := 229) hx hb dX9_one_188 (by decide) (fun c_15 => ?_) (fun c_15 => ?_)
      · have hf := mm_ip hf c_15
        exact tX9_one_229 hgo hE hd C0 hA N  _ _ _ _ _ _ _ _ _ _ H locs ls hf hP hD hS (lv_sub hl [0, 1, 2] rfl)
      · have hf := mm_in hf c_15
        refine lv_aload_n hx hb dX9_one_191 rfl (lv_at hl 0 rfl) ?_
        obtain ⟨r_16, hc_17, hf⟩ := mm_bd1s hf
        refine mm_callVF (q0 := 0) (ci := 9) (rest := []) C0 lk_X9_162 (ctX9_byteAt (a := a) (d := d - 1) (by omega) hc_17) (by omega) rfl hl.1 rfl (mm_cat rfl) dX9_one_192 hP hD hA hS rfl rfl (fun H locs hP hD hS => ?_)
        refine W.eq (g2 := F0 m 195 ls [.int r_16]) rfl ?_
        refine lv_bipush (v := 57) hx hb dX9_one_195 (by decide) ?_
        refine lv_icmp_gt (tgt := 229) hx hb dX9_one_197 (by decide) (fun c_18 => ?_) (fun c_18 => ?_)
        · have hf := mm_ip hf c_18
          exact tX9_one_229 hgo hE hd C0 hA N  _ _ _ _ _ _ _ _ _ _ H locs ls hf hP hD hS (lv_sub hl [0, 1, 2] rfl)
        · have hf := mm_in hf c_18
          refine lv_bipush (v := 10) hx hb dX9_one_200 (by decide) ?_
          refine lv_iload_n hx hb dX9_one_202 rfl (lv_at hl 1 rfl) ?_
          refine lv_imul hx hb dX9_one_203 ?_
          refine lv_aload_n hx hb dX9_one_204 rfl (lv_at hl 0 rfl) ?_
          obtain ⟨r_19, hc_20, hf⟩ := mm_bd1s hf
          refine mm_callVF (q0 := 0) (ci := 9) (rest := [.int ((10 : Int32) * x3)]) C0 lk_X9_162 (ctX9_byteAt (a := a) (d := d - 1) (by omega) hc_20) (by omega) rfl hl.1 rfl (mm_cat rfl) dX9_one_205 hP hD hA hS rfl rfl (fun H locs hP hD hS => ?_)
          refine W.eq (g2 := F0 m 208 ls [.int r_19, .int ((10 : Int32) * x3)]) rfl ?_
          refine lv_iadd hx hb dX9_one_208 ?_
          refine lv_bipush (v := 48) hx hb dX9_one_209 (by decide) ?_
          refine lv_isub hx hb dX9_one_211 ?_
          refine lv_topi (fun y_21 ey_21 => ?_)
          have hf := mm_nms hf ey_21
          refine lv_istore_n (lv' := [(3, .int y_21), (0, .ref (a 0)), (4, .int x4)]) hx hb dX9_one_212 rfl hl (by decide) rfl (fun ls hl => ?_)
          obtain ⟨y_22, ey_22⟩ : ∃ z : Int32, z = x4 + (1 : Int32) := ⟨_, rfl⟩
          have hf := mm_nms hf ey_22
          refine lv_iinc (v := y_22) (lv' := [(4, .int y_22), (3, .int y_21), (0, .ref (a 0))]) hx hb dX9_one_213 hl (k := 2) rfl (by rw [ey_22]; rfl) (by decide) rfl (fun ls hl => ?_)
          refine lv_aload_n hx hb dX9_one_216 rfl (lv_at hl 2 rfl) ?_
          refine lv_dup hx hb dX9_one_217 rfl ?_
          refine mm_get C0 hP iw_X9 0 rfl rfl 22 (by decide) fl_X9_150 rfl dX9_one_218 ?_
          refine lv_iconst (v := 1) hx hb dX9_one_221 (by decide) ?_
          refine lv_iadd hx hb dX9_one_222 ?_
          refine lv_topi (fun y_23 ey_23 => ?_)
          have hf := mm_nms hf ey_23
          refine mm_put C0 hP hD hS iw_X9 tyX9 tyX9_ok nmX9 0 rfl rfl 22 (by decide) fl_X9_150 rfl rfl rfl (Nat.le_of_ble_eq_true rfl) dX9_one_223 (w2 := (wd_X9 cI cL cS cH a v_keptMany v_done v_rowsOf v_columnsOf v_folded v_wronged v_tapeMany v_textMany v_base y_23 v_ends v_fault v_opened v_bentMany v_bentWrong v_moreWorn v_planned v_allWrong v_allWorn v_z v_wishedField v_isFound v_bestWrong v_bestWorn v_bestMany v_soughtBy v_sought v_soughtAt v_foundMany v_foundOrder v_isKept v_imageRows v_imageColumns v_imageFolded v_imageWronged v_bodies v_ran v_ownKind v_ownNumber v_limit v_changeWas v_changeIs v_shapeRows v_shapeColumns v_row v_column v_below v_face v_worn v_lastBend v_tape v_text v_names v_bends v_high v_to v_pileSize v_planLine v_planWay v_way1 v_bestWay v_order1 v_placeIn v_bodyKind v_trace v_shelf v_many v_items v_carried)) rfl (fun H locs hP hD hS => ?_)
          refine lv_goto (tgt := 176) hx hb dX9_one_226 (by decide) ?_
          exact ih _ _ _ _ _ _ _ _ _ _ H locs ls hf hP hD hS (lv_sub hl [2, 1, 0] rfl)

def fX9_oneo (N : Nat) (go : Int32 → Int32 → Int32 → Int32 → Int32 → List Int32 → List Int32 → List Int32 → Option (Int32 × Int32 × Int32 × Int32)) (v_base : Int32) (v_at : Int32) (v_ends : Int32) (v_fault : Int32) (v_opened : Int32) (v_tape : List Int32) (v_text : List Int32) (v_names : List Int32) : Option (Int32 × Int32 × Int32 × Int32) :=
    if v_fault < 0 then
    (mm_bd1 (fX9_byteAt N v_base v_at v_ends v_tape v_text) (fun (r_2 : Int32) =>
    if r_2 = (33 : Int32) then
    (fX9_one_32 N go r_2 v_base v_at v_ends v_fault v_opened v_tape v_text v_names)
    else (if r_2 = (45 : Int32) then
    (fX9_one_32 N go r_2 v_base v_at v_ends v_fault v_opened v_tape v_text v_names)
    else (if r_2 = (40 : Int32) then
    (fX9_one_32 N go r_2 v_base v_at v_ends v_fault v_opened v_tape v_text v_names)
    else (mm_bd1 (fX9_nameOf N r_2) (fun (r_7 : Int32) =>
    if r_7 < 0 then
    (fX9_one_176 N go N (0 : Int32) (0 : Int32) v_base v_at v_ends v_fault v_opened v_tape v_text v_names)
    else (mm_nm ((v_at + (1 : Int32))) (fun (y_10 : Int32) =>
    mm_ck (mm_inb r_7 v_names.length) (some ((mm_ig v_names r_7), y_10, v_fault, v_opened))))))))))
    else (some ((0 : Int32), v_at, v_fault, v_opened))

set_option maxHeartbeats 4000000 in
set_option maxRecDepth 100000 in
theorem ctX9_oneo {l : Launch} {D : va_G} {cI cL cS cH : ClassId} {a : Nat → Nat}  {v_keptMany : Int32} {v_done : Int32} {v_rowsOf : Int32} {v_columnsOf : Int32} {v_folded : Int32} {v_wronged : Int32} {v_tapeMany : Int32} {v_textMany : Int32} {v_base : Int32} {v_at : Int32} {v_ends : Int32} {v_fault : Int32} {v_opened : Int32} {v_bentMany : Int32} {v_bentWrong : Int32} {v_moreWorn : Int32} {v_planned : Int32} {v_allWrong : Int32} {v_allWorn : Int32} {v_z : Int32} {v_wishedField : Int32} {v_isFound : Bool} {v_bestWrong : Int32} {v_bestWorn : Int32} {v_bestMany : Int32} {v_soughtBy : Int32} {v_sought : Int32} {v_soughtAt : Int32} {v_foundMany : Int32} {v_foundOrder : Int32} {v_isKept : Bool} {v_imageRows : Int32} {v_imageColumns : Int32} {v_imageFolded : Int32} {v_imageWronged : Int32} {v_bodies : Int32} {v_ran : Int32} {v_ownKind : Int32} {v_ownNumber : Int32} {v_limit : List Int32} {v_changeWas : List Int32} {v_changeIs : List Int32} {v_shapeRows : List Int32} {v_shapeColumns : List Int32} {v_row : List Int32} {v_column : List Int32} {v_below : List Int32} {v_face : List Int32} {v_worn : List Int32} {v_lastBend : List Int32} {v_tape : List Int32} {v_text : List Int32} {v_names : List Int32} {v_bends : List Int32} {v_high : List Int32} {v_to : List Int32} {v_pileSize : List Int32} {v_planLine : List Int32} {v_planWay : List Int32} {v_way1 : List Int32} {v_bestWay : List Int32} {v_order1 : List Int32} {v_placeIn : List Int32} {v_bodyKind : List Int32} {v_trace : List Int32} {v_shelf : List Int32} {v_many : List Int32} {v_items : List Int64} {v_carried : List Int64} {r : Int32} {w_at : Int32} {w_fault : Int32} {w_opened : Int32} {N d : Nat} {go : Int32 → Int32 → Int32 → Int32 → Int32 → List Int32 → List Int32 → List Int32 → Option (Int32 × Int32 × Int32 × Int32)} {dgo : Nat} (hgo : ∀ (a : Nat → Nat) (v_keptMany : Int32) (v_done : Int32) (v_rowsOf : Int32) (v_columnsOf : Int32) (v_folded : Int32) (v_wronged : Int32) (v_tapeMany : Int32) (v_textMany : Int32) (v_base : Int32) (v_at : Int32) (v_ends : Int32) (v_fault : Int32) (v_opened : Int32) (v_bentMany : Int32) (v_bentWrong : Int32) (v_moreWorn : Int32) (v_planned : Int32) (v_allWrong : Int32) (v_allWorn : Int32) (v_z : Int32) (v_wishedField : Int32) (v_isFound : Bool) (v_bestWrong : Int32) (v_bestWorn : Int32) (v_bestMany : Int32) (v_soughtBy : Int32) (v_sought : Int32) (v_soughtAt : Int32) (v_foundMany : Int32) (v_foundOrder : Int32) (v_isKept : Bool) (v_imageRows : Int32) (v_imageColumns : Int32) (v_imageFolded : Int32) (v_imageWronged : Int32) (v_bodies : Int32) (v_ran : Int32) (v_ownKind : Int32) (v_ownNumber : Int32) (v_limit : List Int32) (v_changeWas : List Int32) (v_changeIs : List Int32) (v_shapeRows : List Int32) (v_shapeColumns : List Int32) (v_row : List Int32) (v_column : List Int32) (v_below : List Int32) (v_face : List Int32) (v_worn : List Int32) (v_lastBend : List Int32) (v_tape : List Int32) (v_text : List Int32) (v_names : List Int32) (v_bends : List Int32) (v_high : List Int32) (v_to : List Int32) (v_pileSize : List Int32) (v_planLine : List Int32) (v_planWay : List Int32) (v_way1 : List Int32) (v_bestWay : List Int32) (v_order1 : List Int32) (v_placeIn : List Int32) (v_bodyKind : List Int32) (v_trace : List Int32) (v_shelf : List Int32) (v_many : List Int32) (v_items : List Int64) (v_carried : List Int64) (r : Int32) (w_at : Int32) (w_fault : Int32) (w_opened : Int32), go v_base v_at v_ends v_fault v_opened v_tape v_text v_names = some (r, w_at, w_fault, w_opened) → mm_Ct l yX9_one cX9_one 5 (some .int) dgo D (mm_T cI cL cS cH) [.ref (a 0)] (wd_X9 cI cL cS cH a v_keptMany v_done v_rowsOf v_columnsOf v_folded v_wronged v_tapeMany v_textMany v_base v_at v_ends v_fault v_opened v_bentMany v_bentWrong v_moreWorn v_planned v_allWrong v_allWorn v_z v_wishedField v_isFound v_bestWrong v_bestWorn v_bestMany v_soughtBy v_sought v_soughtAt v_foundMany v_foundOrder v_isKept v_imageRows v_imageColumns v_imageFolded v_imageWronged v_bodies v_ran v_ownKind v_ownNumber v_limit v_changeWas v_changeIs v_shapeRows v_shapeColumns v_row v_column v_below v_face v_worn v_lastBend v_tape v_text v_names v_bends v_high v_to v_pileSize v_planLine v_planWay v_way1 v_bestWay v_order1 v_placeIn v_bodyKind v_trace v_shelf v_many v_items v_carried) (wd_X9 cI cL cS cH a v_keptMany v_done v_rowsOf v_columnsOf v_folded v_wronged v_tapeMany v_textMany v_base w_at v_ends w_fault w_opened v_bentMany v_bentWrong v_moreWorn v_planned v_allWrong v_allWorn v_z v_wishedField v_isFound v_bestWrong v_bestWorn v_bestMany v_soughtBy v_sought v_soughtAt v_foundMany v_foundOrder v_isKept v_imageRows v_imageColumns v_imageFolded v_imageWronged v_bodies v_ran v_ownKind v_ownNumber v_limit v_changeWas v_changeIs v_shapeRows v_shapeColumns v_row v_column v_below v_face v_worn v_lastBend v_tape v_text v_names v_bends v_high v_to v_pileSize v_planLine v_planWay v_way1 v_bestWay v_order1 v_placeIn v_bodyKind v_trace v_shelf v_many v_items v_carried) (some (.int r))) (hE : 2 ≤ dgo) (hd : dgo + 6 ≤ d) (hf : fX9_oneo N go v_base v_at v_ends v_fault v_opened v_tape v_text v_names = some (r, w_at, w_fault, w_opened)) : mm_Ct l yX9_one cX9_one 5 (some .int) d D (mm_T cI cL cS cH) [.ref (a 0)] (wd_X9 cI cL cS cH a v_keptMany v_done v_rowsOf v_columnsOf v_folded v_wronged v_tapeMany v_textMany v_base v_at v_ends v_fault v_opened v_bentMany v_bentWrong v_moreWorn v_planned v_allWrong v_allWorn v_z v_wishedField v_isFound v_bestWrong v_bestWorn v_bestMany v_soughtBy v_sought v_soughtAt v_foundMany v_foundOrder v_isKept v_imageRows v_imageColumns v_imageFolded v_imageWronged v_bodies v_ran v_ownKind v_ownNumber v_limit v_changeWas v_changeIs v_shapeRows v_shapeColumns v_row v_column v_below v_face v_worn v_lastBend v_tape v_text v_names v_bends v_high v_to v_pileSize v_planLine v_planWay v_way1 v_bestWay v_order1 v_placeIn v_bodyKind v_trace v_shelf v_many v_items v_carried) (wd_X9 cI cL cS cH a v_keptMany v_done v_rowsOf v_columnsOf v_folded v_wronged v_tapeMany v_textMany v_base w_at v_ends w_fault w_opened v_bentMany v_bentWrong v_moreWorn v_planned v_allWrong v_allWorn v_z v_wishedField v_isFound v_bestWrong v_bestWorn v_bestMany v_soughtBy v_sought v_soughtAt v_foundMany v_foundOrder v_isKept v_imageRows v_imageColumns v_imageFolded v_imageWronged v_bodies v_ran v_ownKind v_ownNumber v_limit v_changeWas v_changeIs v_shapeRows v_shapeColumns v_row v_column v_below v_face v_worn v_lastBend v_tape v_text v_names v_bends v_high v_to v_pileSize v_planLine v_planWay v_way1 v_bestWay v_order1 v_placeIn v_bodyKind v_trace v_shelf v_many v_items v_carried) (some (.int r)) := by
  refine mm_of (by decide) (Nat.le_of_ble_eq_true rfl) ?_
  intro p e s m args below meth c A H locs ls C0 hP hD hA hS hl
  have C0 : mm_Cx p s m args meth c RX9 cX9_one 5 (some .int) D (mm_T cI cL cS cH) A := C0
  obtain ⟨hx, hb, hml, hown, hts, hr, hlocks, hK, hSt⟩ := id C0
  have hl : lv_has ls 5 [(0, .ref (a 0))] := hl
  unfold fX9_oneo at hf
  refine lv_aload_n hx hb dX9_one_0 rfl (lv_at hl 0 rfl) ?_
  refine mm_get C0 hP iw_X9 0 rfl rfl 24 (by decide) fl_X9_159 rfl dX9_one_1 ?_
  refine lv_if_lt (tgt := 9) hx hb dX9_one_4 (by decide) (fun c_1 => ?_) (fun c_1 => ?_)
  · have hf := mm_ip hf c_1
    refine lv_aload_n hx hb dX9_one_9 rfl (lv_at hl 0 rfl) ?_
    obtain ⟨r_2, hc_3, hf⟩ := mm_bd1s hf
    refine mm_callVF (q0 := 0) (ci := 9) (rest := []) C0 lk_X9_162 (ctX9_byteAt (a := a) (d := d - 1) (by omega) hc_3) (by omega) rfl hl.1 rfl (mm_cat rfl) dX9_one_10 hP hD hA hS rfl rfl (fun H locs hP hD hS => ?_)
    refine W.eq (g2 := F0 m 13 ls [.int r_2]) rfl ?_
    refine lv_istore_n (lv' := [(1, .int r_2), (0, .ref (a 0))]) hx hb dX9_one_13 rfl hl (by decide) rfl (fun ls hl => ?_)
    refine lv_iload_n hx hb dX9_one_14 rfl (lv_at hl 0 rfl) ?_
    refine lv_bipush (v := 33) hx hb dX9_one_15 (by decide) ?_
    refine lv_icmp_eq (tgt := 32) hx hb dX9_one_17 (by decide) (fun c_4 => ?_) (fun c_4 => ?_)
    · have hf := mm_ip hf c_4
      exact tX9_one_32 hgo hE hd C0 hA N  _ _ _ _ _ _ _ _ _ H locs ls hf hP hD hS (lv_sub hl [1, 0] rfl)
    · have hf := mm_in hf c_4
      refine lv_iload_n hx hb dX9_one_20 rfl (lv_at hl 0 rfl) ?_
      refine lv_bipush (v := 45) hx hb dX9_one_21 (by decide) ?_
      refine lv_icmp_eq (tgt := 32) hx hb dX9_one_23 (by decide) (fun c_5 => ?_) (fun c_5 => ?_)
      · have hf := mm_ip hf c_5
        exact tX9_one_32 hgo hE hd C0 hA N  _ _ _ _ _ _ _ _ _ H locs ls hf hP hD hS (lv_sub hl [1, 0] rfl)
      · have hf := mm_in hf c_5
        refine lv_iload_n hx hb dX9_one_26 rfl (lv_at hl 0 rfl) ?_
        refine lv_bipush (v := 40) hx hb dX9_one_27 (by decide) ?_
        refine lv_icmp_ne (tgt := 145) hx hb dX9_one_29 (by decide) (fun c_6 => ?_) (fun c_6 => ?_)
        · have hf := mm_in hf c_6
          refine lv_iload_n hx hb dX9_one_145 rfl (lv_at hl 0 rfl) ?_
          obtain ⟨r_7, hc_8, hf⟩ := mm_bd1s hf
          refine mm_callS0 (rest := []) C0 lk_X9_193 (ctX9_nameOf (d := d - 1) (by omega) hc_8) (by omega) rfl hl.1 rfl (mm_cat rfl) dX9_one_146 hP hD hA hS (fun H locs hP hS => ?_)
          refine W.eq (g2 := F0 m 149 ls [.int r_7]) rfl ?_
          refine lv_istore_n (lv' := [(2, .int r_7), (1, .int r_2), (0, .ref (a 0))]) hx hb dX9_one_149 rfl hl (by decide) rfl (fun ls hl => ?_)
          refine lv_iload_n hx hb dX9_one_150 rfl (lv_at hl 0 rfl) ?_
          refine lv_if_lt (tgt := 171) hx hb dX9_one_151 (by decide) (fun c_9 => ?_) (fun c_9 => ?_)
          · have hf := mm_ip hf c_9
            refine lv_iconst (v := 0) hx hb dX9_one_171 (by decide) ?_
            refine lv_istore_n (lv' := [(3, .int (0 : Int32)), (2, .int r_7), (1, .int r_2), (0, .ref (a 0))]) hx hb dX9_one_172 rfl hl (by decide) rfl (fun ls hl => ?_)
            refine lv_iconst (v := 0) hx hb dX9_one_173 (by decide) ?_
            refine lv_istore (lv' := [(4, .int (0 : Int32)), (3, .int (0 : Int32)), (2, .int r_7), (1, .int r_2), (0, .ref (a 0))]) hx hb dX9_one_174 hl (by decide) rfl (fun ls hl => ?_)
            exact tX9_one_176 hgo hE hd C0 hA N  N _ _ _ _ _ _ _ _ _ _ H locs ls hf hP hD hS (lv_sub hl [4, 1, 0] rfl)
          · have hf := mm_in hf c_9
            refine lv_aload_n hx hb dX9_one_154 rfl (lv_at hl 2 rfl) ?_
            refine lv_dup hx hb dX9_one_155 rfl ?_
            refine mm_get C0 hP iw_X9 0 rfl rfl 22 (by decide) fl_X9_150 rfl dX9_one_156 ?_
            refine lv_iconst (v := 1) hx hb dX9_one_159 (by decide) ?_
            refine lv_iadd hx hb dX9_one_160 ?_
            refine lv_topi (fun y_10 ey_10 => ?_)
            have hf := mm_nms hf ey_10
            refine mm_put C0 hP hD hS iw_X9 tyX9 tyX9_ok nmX9 0 rfl rfl 22 (by decide) fl_X9_150 rfl rfl rfl (Nat.le_of_ble_eq_true rfl) dX9_one_161 (w2 := (wd_X9 cI cL cS cH a v_keptMany v_done v_rowsOf v_columnsOf v_folded v_wronged v_tapeMany v_textMany v_base y_10 v_ends v_fault v_opened v_bentMany v_bentWrong v_moreWorn v_planned v_allWrong v_allWorn v_z v_wishedField v_isFound v_bestWrong v_bestWorn v_bestMany v_soughtBy v_sought v_soughtAt v_foundMany v_foundOrder v_isKept v_imageRows v_imageColumns v_imageFolded v_imageWronged v_bodies v_ran v_ownKind v_ownNumber v_limit v_changeWas v_changeIs v_shapeRows v_shapeColumns v_row v_column v_below v_face v_worn v_lastBend v_tape v_text v_names v_bends v_high v_to v_pileSize v_planLine v_planWay v_way1 v_bestWay v_order1 v_placeIn v_bodyKind v_trace v_shelf v_many v_items v_carried)) rfl (fun H locs hP hD hS => ?_)
            refine lv_aload_n hx hb dX9_one_164 rfl (lv_at hl 2 rfl) ?_
            refine mm_get C0 hP iw_X9 0 rfl rfl 26 (by decide) fl_X9_49 rfl dX9_one_165 ?_
            refine lv_iload_n hx hb dX9_one_168 rfl (lv_at hl 0 rfl) ?_
            obtain ⟨h_11, hf⟩ := mm_cks hf
            refine mm_iald C0 hP 14 rfl h_11 dX9_one_169 ?_
            apply mm_sub4 hf
            exact mm_iret C0 hP hD hS dX9_one_170
        · have hf := mm_ip hf c_6
          exact tX9_one_32 hgo hE hd C0 hA N  _ _ _ _ _ _ _ _ _ H locs ls hf hP hD hS (lv_sub hl [1, 0] rfl)
  · have hf := mm_in hf c_1
    refine lv_iconst (v := 0) hx hb dX9_one_7 (by decide) ?_
    apply mm_sub4 hf
    exact mm_iret C0 hP hD hS dX9_one_8

def fX9_one (N : Nat) : Nat → Int32 → Int32 → Int32 → Int32 → Int32 → List Int32 → List Int32 → List Int32 → Option (Int32 × Int32 × Int32 × Int32)
  | 0 => fun _ _ _ _ _ _ _ _ => none
  | M + 1 => fX9_oneo N (fX9_one N M)
set_option maxHeartbeats 4000000 in
set_option maxRecDepth 100000 in
theorem ctX9_one {l : Launch} {D : va_G} {cI cL cS cH : ClassId} {N : Nat} : ∀ (M d : Nat), 2 + 6 * M ≤ d → ∀ (a : Nat → Nat) (v_keptMany : Int32) (v_done : Int32) (v_rowsOf : Int32) (v_columnsOf : Int32) (v_folded : Int32) (v_wronged : Int32) (v_tapeMany : Int32) (v_textMany : Int32) (v_base : Int32) (v_at : Int32) (v_ends : Int32) (v_fault : Int32) (v_opened : Int32) (v_bentMany : Int32) (v_bentWrong : Int32) (v_moreWorn : Int32) (v_planned : Int32) (v_allWrong : Int32) (v_allWorn : Int32) (v_z : Int32) (v_wishedField : Int32) (v_isFound : Bool) (v_bestWrong : Int32) (v_bestWorn : Int32) (v_bestMany : Int32) (v_soughtBy : Int32) (v_sought : Int32) (v_soughtAt : Int32) (v_foundMany : Int32) (v_foundOrder : Int32) (v_isKept : Bool) (v_imageRows : Int32) (v_imageColumns : Int32) (v_imageFolded : Int32) (v_imageWronged : Int32) (v_bodies : Int32) (v_ran : Int32) (v_ownKind : Int32) (v_ownNumber : Int32) (v_limit : List Int32) (v_changeWas : List Int32) (v_changeIs : List Int32) (v_shapeRows : List Int32) (v_shapeColumns : List Int32) (v_row : List Int32) (v_column : List Int32) (v_below : List Int32) (v_face : List Int32) (v_worn : List Int32) (v_lastBend : List Int32) (v_tape : List Int32) (v_text : List Int32) (v_names : List Int32) (v_bends : List Int32) (v_high : List Int32) (v_to : List Int32) (v_pileSize : List Int32) (v_planLine : List Int32) (v_planWay : List Int32) (v_way1 : List Int32) (v_bestWay : List Int32) (v_order1 : List Int32) (v_placeIn : List Int32) (v_bodyKind : List Int32) (v_trace : List Int32) (v_shelf : List Int32) (v_many : List Int32) (v_items : List Int64) (v_carried : List Int64) (r : Int32) (w_at : Int32) (w_fault : Int32) (w_opened : Int32), fX9_one N M v_base v_at v_ends v_fault v_opened v_tape v_text v_names = some (r, w_at, w_fault, w_opened) → mm_Ct l yX9_one cX9_one 5 (some .int) d D (mm_T cI cL cS cH) [.ref (a 0)] (wd_X9 cI cL cS cH a v_keptMany v_done v_rowsOf v_columnsOf v_folded v_wronged v_tapeMany v_textMany v_base v_at v_ends v_fault v_opened v_bentMany v_bentWrong v_moreWorn v_planned v_allWrong v_allWorn v_z v_wishedField v_isFound v_bestWrong v_bestWorn v_bestMany v_soughtBy v_sought v_soughtAt v_foundMany v_foundOrder v_isKept v_imageRows v_imageColumns v_imageFolded v_imageWronged v_bodies v_ran v_ownKind v_ownNumber v_limit v_changeWas v_changeIs v_shapeRows v_shapeColumns v_row v_column v_below v_face v_worn v_lastBend v_tape v_text v_names v_bends v_high v_to v_pileSize v_planLine v_planWay v_way1 v_bestWay v_order1 v_placeIn v_bodyKind v_trace v_shelf v_many v_items v_carried) (wd_X9 cI cL cS cH a v_keptMany v_done v_rowsOf v_columnsOf v_folded v_wronged v_tapeMany v_textMany v_base w_at v_ends w_fault w_opened v_bentMany v_bentWrong v_moreWorn v_planned v_allWrong v_allWorn v_z v_wishedField v_isFound v_bestWrong v_bestWorn v_bestMany v_soughtBy v_sought v_soughtAt v_foundMany v_foundOrder v_isKept v_imageRows v_imageColumns v_imageFolded v_imageWronged v_bodies v_ran v_ownKind v_ownNumber v_limit v_changeWas v_changeIs v_shapeRows v_shapeColumns v_row v_column v_below v_face v_worn v_lastBend v_tape v_text v_names v_bends v_high v_to v_pileSize v_planLine v_planWay v_way1 v_bestWay v_order1 v_placeIn v_bodyKind v_trace v_shelf v_many v_items v_carried) (some (.int r)) := by
  intro M
  induction M with
  | zero =>
    intro d hd a v_keptMany v_done v_rowsOf v_columnsOf v_folded v_wronged v_tapeMany v_textMany v_base v_at v_ends v_fault v_opened v_bentMany v_bentWrong v_moreWorn v_planned v_allWrong v_allWorn v_z v_wishedField v_isFound v_bestWrong v_bestWorn v_bestMany v_soughtBy v_sought v_soughtAt v_foundMany v_foundOrder v_isKept v_imageRows v_imageColumns v_imageFolded v_imageWronged v_bodies v_ran v_ownKind v_ownNumber v_limit v_changeWas v_changeIs v_shapeRows v_shapeColumns v_row v_column v_below v_face v_worn v_lastBend v_tape v_text v_names v_bends v_high v_to v_pileSize v_planLine v_planWay v_way1 v_bestWay v_order1 v_placeIn v_bodyKind v_trace v_shelf v_many v_items v_carried r w_at w_fault w_opened hf
    cases (show none = some _ from hf)
  | succ M ih =>
    intro d hd a v_keptMany v_done v_rowsOf v_columnsOf v_folded v_wronged v_tapeMany v_textMany v_base v_at v_ends v_fault v_opened v_bentMany v_bentWrong v_moreWorn v_planned v_allWrong v_allWorn v_z v_wishedField v_isFound v_bestWrong v_bestWorn v_bestMany v_soughtBy v_sought v_soughtAt v_foundMany v_foundOrder v_isKept v_imageRows v_imageColumns v_imageFolded v_imageWronged v_bodies v_ran v_ownKind v_ownNumber v_limit v_changeWas v_changeIs v_shapeRows v_shapeColumns v_row v_column v_below v_face v_worn v_lastBend v_tape v_text v_names v_bends v_high v_to v_pileSize v_planLine v_planWay v_way1 v_bestWay v_order1 v_placeIn v_bodyKind v_trace v_shelf v_many v_items v_carried r w_at w_fault w_opened hf
    exact ctX9_oneo (N := N) (ih (2 + 6 * M) (Nat.le_refl _)) (Nat.le_add_right _ _) (by omega) hf
end
section
/-! reference: X9_workOut, X9_law, X9_wears, X9_isLine, X9_placeOf -/
theorem nb_dX9_workOut_0 : bls_w cX9_workOut [(0, [42]), (1, [27]), (2, [181, 0, 156]), (5, [42]), (6, [3]), (7, [181, 0, 150]), (10, [42]), (11, [28]), (12, [181, 0, 153]), (15, [42]), (16, [2]), (17, [181, 0, 159])] := bls_of (by decide +kernel)
theorem dX9_workOut_0 : decode cX9_workOut 0 = .ok (.aload_n 0, 1) := op_42 nb_dX9_workOut_0.1
theorem dX9_workOut_1 : decode cX9_workOut 1 = .ok (.iload_n 1, 1) := op_27 nb_dX9_workOut_0.2.1
set_option maxRecDepth 100000 in
theorem dX9_workOut_2 : decode cX9_workOut 2 = .ok (.putfield 156, 3) := (op_181 nb_dX9_workOut_0.2.2.1).trans rfl
theorem dX9_workOut_5 : decode cX9_workOut 5 = .ok (.aload_n 0, 1) := op_42 nb_dX9_workOut_0.2.2.2.1
theorem dX9_workOut_6 : decode cX9_workOut 6 = .ok (.iconst 0, 1) := op_3 nb_dX9_workOut_0.2.2.2.2.1
set_option maxRecDepth 100000 in
theorem dX9_workOut_7 : decode cX9_workOut 7 = .ok (.putfield 150, 3) := (op_181 nb_dX9_workOut_0.2.2.2.2.2.1).trans rfl
theorem dX9_workOut_10 : decode cX9_workOut 10 = .ok (.aload_n 0, 1) := op_42 nb_dX9_workOut_0.2.2.2.2.2.2.1
theorem dX9_workOut_11 : decode cX9_workOut 11 = .ok (.iload_n 2, 1) := op_28 nb_dX9_workOut_0.2.2.2.2.2.2.2.1
set_option maxRecDepth 100000 in
theorem dX9_workOut_12 : decode cX9_workOut 12 = .ok (.putfield 153, 3) := (op_181 nb_dX9_workOut_0.2.2.2.2.2.2.2.2.1).trans rfl
theorem dX9_workOut_15 : decode cX9_workOut 15 = .ok (.aload_n 0, 1) := op_42 nb_dX9_workOut_0.2.2.2.2.2.2.2.2.2.1
theorem dX9_workOut_16 : decode cX9_workOut 16 = .ok (.iconst (-1), 1) := op_2 nb_dX9_workOut_0.2.2.2.2.2.2.2.2.2.2.1
set_option maxRecDepth 100000 in
theorem dX9_workOut_17 : decode cX9_workOut 17 = .ok (.putfield 159, 3) := (op_181 nb_dX9_workOut_0.2.2.2.2.2.2.2.2.2.2.2.1).trans rfl
theorem nb_dX9_workOut_20 : bls_w cX9_workOut [(20, [42]), (21, [3]), (22, [181, 0, 184]), (25, [3]), (26, [62]), (27, [3]), (28, [54, 4]), (30, [4]), (31, [54, 5]), (33, [21, 5]), (35, [153, 0, 72]), (38, [42])] := bls_of (by decide +kernel)
theorem dX9_workOut_20 : decode cX9_workOut 20 = .ok (.aload_n 0, 1) := op_42 nb_dX9_workOut_20.1
theorem dX9_workOut_21 : decode cX9_workOut 21 = .ok (.iconst 0, 1) := op_3 nb_dX9_workOut_20.2.1
set_option maxRecDepth 100000 in
theorem dX9_workOut_22 : decode cX9_workOut 22 = .ok (.putfield 184, 3) := (op_181 nb_dX9_workOut_20.2.2.1).trans rfl
theorem dX9_workOut_25 : decode cX9_workOut 25 = .ok (.iconst 0, 1) := op_3 nb_dX9_workOut_20.2.2.2.1
theorem dX9_workOut_26 : decode cX9_workOut 26 = .ok (.istore_n 3, 1) := op_62 nb_dX9_workOut_20.2.2.2.2.1
theorem dX9_workOut_27 : decode cX9_workOut 27 = .ok (.iconst 0, 1) := op_3 nb_dX9_workOut_20.2.2.2.2.2.1
set_option maxRecDepth 100000 in
theorem dX9_workOut_28 : decode cX9_workOut 28 = .ok (.istore 4, 2) := (op_54 nb_dX9_workOut_20.2.2.2.2.2.2.1).trans rfl
theorem dX9_workOut_30 : decode cX9_workOut 30 = .ok (.iconst 1, 1) := op_4 nb_dX9_workOut_20.2.2.2.2.2.2.2.1
set_option maxRecDepth 100000 in
theorem dX9_workOut_31 : decode cX9_workOut 31 = .ok (.istore 5, 2) := (op_54 nb_dX9_workOut_20.2.2.2.2.2.2.2.2.1).trans rfl
set_option maxRecDepth 100000 in
theorem dX9_workOut_33 : decode cX9_workOut 33 = .ok (.iload 5, 2) := (op_21 nb_dX9_workOut_20.2.2.2.2.2.2.2.2.2.1).trans rfl
set_option maxRecDepth 100000 in
theorem dX9_workOut_35 : decode cX9_workOut 35 = .ok (.ifCond .eq 72, 3) := (op_153 nb_dX9_workOut_20.2.2.2.2.2.2.2.2.2.2.1).trans rfl
theorem dX9_workOut_38 : decode cX9_workOut 38 = .ok (.aload_n 0, 1) := op_42 nb_dX9_workOut_20.2.2.2.2.2.2.2.2.2.2.2.1
theorem nb_dX9_workOut_39 : bls_w cX9_workOut [(39, [182, 0, 190]), (42, [54, 6]), (44, [4]), (45, [54, 7]), (47, [42]), (48, [16, 63]), (50, [182, 0, 168]), (53, [153, 0, 21]), (56, [21, 6]), (58, [153, 0, 7]), (61, [4]), (62, [167, 0, 4])] := bls_of (by decide +kernel)
set_option maxRecDepth 100000 in
theorem dX9_workOut_39 : decode cX9_workOut 39 = .ok (.invokevirtual 190, 3) := (op_182 nb_dX9_workOut_39.1).trans rfl
set_option maxRecDepth 100000 in
theorem dX9_workOut_42 : decode cX9_workOut 42 = .ok (.istore 6, 2) := (op_54 nb_dX9_workOut_39.2.1).trans rfl
theorem dX9_workOut_44 : decode cX9_workOut 44 = .ok (.iconst 1, 1) := op_4 nb_dX9_workOut_39.2.2.1
set_option maxRecDepth 100000 in
theorem dX9_workOut_45 : decode cX9_workOut 45 = .ok (.istore 7, 2) := (op_54 nb_dX9_workOut_39.2.2.2.1).trans rfl
theorem dX9_workOut_47 : decode cX9_workOut 47 = .ok (.aload_n 0, 1) := op_42 nb_dX9_workOut_39.2.2.2.2.1
set_option maxRecDepth 100000 in
theorem dX9_workOut_48 : decode cX9_workOut 48 = .ok (.bipush 63, 2) := (op_16 nb_dX9_workOut_39.2.2.2.2.2.1).trans rfl
set_option maxRecDepth 100000 in
theorem dX9_workOut_50 : decode cX9_workOut 50 = .ok (.invokevirtual 168, 3) := (op_182 nb_dX9_workOut_39.2.2.2.2.2.2.1).trans rfl
set_option maxRecDepth 100000 in
theorem dX9_workOut_53 : decode cX9_workOut 53 = .ok (.ifCond .eq 21, 3) := (op_153 nb_dX9_workOut_39.2.2.2.2.2.2.2.1).trans rfl
set_option maxRecDepth 100000 in
theorem dX9_workOut_56 : decode cX9_workOut 56 = .ok (.iload 6, 2) := (op_21 nb_dX9_workOut_39.2.2.2.2.2.2.2.2.1).trans rfl
set_option maxRecDepth 100000 in
theorem dX9_workOut_58 : decode cX9_workOut 58 = .ok (.ifCond .eq 7, 3) := (op_153 nb_dX9_workOut_39.2.2.2.2.2.2.2.2.2.1).trans rfl
theorem dX9_workOut_61 : decode cX9_workOut 61 = .ok (.iconst 1, 1) := op_4 nb_dX9_workOut_39.2.2.2.2.2.2.2.2.2.2.1
set_option maxRecDepth 100000 in
theorem dX9_workOut_62 : decode cX9_workOut 62 = .ok (.goto 4, 3) := (op_167 nb_dX9_workOut_39.2.2.2.2.2.2.2.2.2.2.2.1).trans rfl
theorem nb_dX9_workOut_65 : bls_w cX9_workOut [(65, [3]), (66, [54, 7]), (68, [42]), (69, [182, 0, 190]), (72, [54, 6]), (74, [42]), (75, [180, 0, 159]), (78, [156, 0, 18]), (81, [21, 7]), (83, [153, 0, 13]), (86, [29]), (87, [154, 0, 9])] := bls_of (by decide +kernel)
theorem dX9_workOut_65 : decode cX9_workOut 65 = .ok (.iconst 0, 1) := op_3 nb_dX9_workOut_65.1
set_option maxRecDepth 100000 in
theorem dX9_workOut_66 : decode cX9_workOut 66 = .ok (.istore 7, 2) := (op_54 nb_dX9_workOut_65.2.1).trans rfl
theorem dX9_workOut_68 : decode cX9_workOut 68 = .ok (.aload_n 0, 1) := op_42 nb_dX9_workOut_65.2.2.1
set_option maxRecDepth 100000 in
theorem dX9_workOut_69 : decode cX9_workOut 69 = .ok (.invokevirtual 190, 3) := (op_182 nb_dX9_workOut_65.2.2.2.1).trans rfl
set_option maxRecDepth 100000 in
theorem dX9_workOut_72 : decode cX9_workOut 72 = .ok (.istore 6, 2) := (op_54 nb_dX9_workOut_65.2.2.2.2.1).trans rfl
theorem dX9_workOut_74 : decode cX9_workOut 74 = .ok (.aload_n 0, 1) := op_42 nb_dX9_workOut_65.2.2.2.2.2.1
set_option maxRecDepth 100000 in
theorem dX9_workOut_75 : decode cX9_workOut 75 = .ok (.getfield 159, 3) := (op_180 nb_dX9_workOut_65.2.2.2.2.2.2.1).trans rfl
set_option maxRecDepth 100000 in
theorem dX9_workOut_78 : decode cX9_workOut 78 = .ok (.ifCond .ge 18, 3) := (op_156 nb_dX9_workOut_65.2.2.2.2.2.2.2.1).trans rfl
set_option maxRecDepth 100000 in
theorem dX9_workOut_81 : decode cX9_workOut 81 = .ok (.iload 7, 2) := (op_21 nb_dX9_workOut_65.2.2.2.2.2.2.2.2.1).trans rfl
set_option maxRecDepth 100000 in
theorem dX9_workOut_83 : decode cX9_workOut 83 = .ok (.ifCond .eq 13, 3) := (op_153 nb_dX9_workOut_65.2.2.2.2.2.2.2.2.2.1).trans rfl
theorem dX9_workOut_86 : decode cX9_workOut 86 = .ok (.iload_n 3, 1) := op_29 nb_dX9_workOut_65.2.2.2.2.2.2.2.2.2.2.1
set_option maxRecDepth 100000 in
theorem dX9_workOut_87 : decode cX9_workOut 87 = .ok (.ifCond .ne 9, 3) := (op_154 nb_dX9_workOut_65.2.2.2.2.2.2.2.2.2.2.2.1).trans rfl
theorem nb_dX9_workOut_90 : bls_w cX9_workOut [(90, [4]), (91, [62]), (92, [21, 6]), (94, [54, 4]), (96, [42]), (97, [16, 59]), (99, [182, 0, 168]), (102, [54, 5]), (104, [167, 255, 185]), (107, [42]), (108, [180, 0, 159]), (111, [156, 0, 19])] := bls_of (by decide +kernel)
theorem dX9_workOut_90 : decode cX9_workOut 90 = .ok (.iconst 1, 1) := op_4 nb_dX9_workOut_90.1
theorem dX9_workOut_91 : decode cX9_workOut 91 = .ok (.istore_n 3, 1) := op_62 nb_dX9_workOut_90.2.1
set_option maxRecDepth 100000 in
theorem dX9_workOut_92 : decode cX9_workOut 92 = .ok (.iload 6, 2) := (op_21 nb_dX9_workOut_90.2.2.1).trans rfl
set_option maxRecDepth 100000 in
theorem dX9_workOut_94 : decode cX9_workOut 94 = .ok (.istore 4, 2) := (op_54 nb_dX9_workOut_90.2.2.2.1).trans rfl
theorem dX9_workOut_96 : decode cX9_workOut 96 = .ok (.aload_n 0, 1) := op_42 nb_dX9_workOut_90.2.2.2.2.1
set_option maxRecDepth 100000 in
theorem dX9_workOut_97 : decode cX9_workOut 97 = .ok (.bipush 59, 2) := (op_16 nb_dX9_workOut_90.2.2.2.2.2.1).trans rfl
set_option maxRecDepth 100000 in
theorem dX9_workOut_99 : decode cX9_workOut 99 = .ok (.invokevirtual 168, 3) := (op_182 nb_dX9_workOut_90.2.2.2.2.2.2.1).trans rfl
set_option maxRecDepth 100000 in
theorem dX9_workOut_102 : decode cX9_workOut 102 = .ok (.istore 5, 2) := (op_54 nb_dX9_workOut_90.2.2.2.2.2.2.2.1).trans rfl
set_option maxRecDepth 100000 in
theorem dX9_workOut_104 : decode cX9_workOut 104 = .ok (.goto (-71), 3) := (op_167 nb_dX9_workOut_90.2.2.2.2.2.2.2.2.1).trans rfl
theorem dX9_workOut_107 : decode cX9_workOut 107 = .ok (.aload_n 0, 1) := op_42 nb_dX9_workOut_90.2.2.2.2.2.2.2.2.2.1
set_option maxRecDepth 100000 in
theorem dX9_workOut_108 : decode cX9_workOut 108 = .ok (.getfield 159, 3) := (op_180 nb_dX9_workOut_90.2.2.2.2.2.2.2.2.2.2.1).trans rfl
set_option maxRecDepth 100000 in
theorem dX9_workOut_111 : decode cX9_workOut 111 = .ok (.ifCond .ge 19, 3) := (op_156 nb_dX9_workOut_90.2.2.2.2.2.2.2.2.2.2.2.1).trans rfl
theorem nb_dX9_workOut_114 : bls_w cX9_workOut [(114, [42]), (115, [180, 0, 150]), (118, [42]), (119, [180, 0, 153]), (122, [162, 0, 8]), (125, [42]), (126, [182, 0, 187]), (129, [172]), (130, [21, 4]), (132, [172])] := bls_of (by decide +kernel)
theorem dX9_workOut_114 : decode cX9_workOut 114 = .ok (.aload_n 0, 1) := op_42 nb_dX9_workOut_114.1
set_option maxRecDepth 100000 in
theorem dX9_workOut_115 : decode cX9_workOut 115 = .ok (.getfield 150, 3) := (op_180 nb_dX9_workOut_114.2.1).trans rfl
theorem dX9_workOut_118 : decode cX9_workOut 118 = .ok (.aload_n 0, 1) := op_42 nb_dX9_workOut_114.2.2.1
set_option maxRecDepth 100000 in
theorem dX9_workOut_119 : decode cX9_workOut 119 = .ok (.getfield 153, 3) := (op_180 nb_dX9_workOut_114.2.2.2.1).trans rfl
set_option maxRecDepth 100000 in
theorem dX9_workOut_122 : decode cX9_workOut 122 = .ok (.if_icmp .ge 8, 3) := (op_162 nb_dX9_workOut_114.2.2.2.2.1).trans rfl
theorem dX9_workOut_125 : decode cX9_workOut 125 = .ok (.aload_n 0, 1) := op_42 nb_dX9_workOut_114.2.2.2.2.2.1
set_option maxRecDepth 100000 in
theorem dX9_workOut_126 : decode cX9_workOut 126 = .ok (.invokevirtual 187, 3) := (op_182 nb_dX9_workOut_114.2.2.2.2.2.2.1).trans rfl
theorem dX9_workOut_129 : decode cX9_workOut 129 = .ok (.ireturn, 1) := op_172 nb_dX9_workOut_114.2.2.2.2.2.2.2.1
set_option maxRecDepth 100000 in
theorem dX9_workOut_130 : decode cX9_workOut 130 = .ok (.iload 4, 2) := (op_21 nb_dX9_workOut_114.2.2.2.2.2.2.2.2.1).trans rfl
theorem dX9_workOut_132 : decode cX9_workOut 132 = .ok (.ireturn, 1) := op_172 nb_dX9_workOut_114.2.2.2.2.2.2.2.2.2.1
def fX9_workOut_96 (N : Nat) (k_33 : Int32 → Int32 → Int32 → Int32 → Int32 → Int32 → Int32 → Int32 → List Int32 → List Int32 → List Int32 → Option (Int32 × Int32 × Int32 × Int32 × Int32 × Int32)) (x3 : Int32) (x4 : Int32) (v_base : Int32) (v_at : Int32) (v_ends : Int32) (v_fault : Int32) (v_opened : Int32) (v_tape : List Int32) (v_text : List Int32) (v_names : List Int32) : Option (Int32 × Int32 × Int32 × Int32 × Int32 × Int32) :=
    mm_bd2 (fX9_takes N (59 : Int32) v_base v_at v_ends v_fault v_tape v_text) (fun (r_25 : Bool) (w_26 : Int32) =>
    k_33 x3 x4 (mm_b r_25) v_base w_26 v_ends v_fault v_opened v_tape v_text v_names)

set_option maxHeartbeats 4000000 in
set_option maxRecDepth 100000 in
theorem tX9_workOut_96 {p : Program} {l : Launch} {e : Env} {s : State} {m : MethodId} {args : Array Value} {below : List Frame} {meth : Method} {c : Code} {D : va_G} {cI cL cS cH : ClassId} {A : Nat → Prop} {d : Nat} {a : Nat → Nat} (hd : 56 ≤ d) (C0 : mm_Cx p s m args meth c RX9 cX9_workOut 8 (some .int) D (mm_T cI cL cS cH) A) (hA : ∀ q, s.heap.size ≤ q → A q) {v_keptMany : Int32} {v_done : Int32} {v_rowsOf : Int32} {v_columnsOf : Int32} {v_folded : Int32} {v_wronged : Int32} {v_tapeMany : Int32} {v_textMany : Int32} {v_bentMany : Int32} {v_bentWrong : Int32} {v_moreWorn : Int32} {v_planned : Int32} {v_allWrong : Int32} {v_allWorn : Int32} {v_z : Int32} {v_wishedField : Int32} {v_isFound : Bool} {v_bestWrong : Int32} {v_bestWorn : Int32} {v_bestMany : Int32} {v_soughtBy : Int32} {v_sought : Int32} {v_soughtAt : Int32} {v_foundMany : Int32} {v_foundOrder : Int32} {v_isKept : Bool} {v_imageRows : Int32} {v_imageColumns : Int32} {v_imageFolded : Int32} {v_imageWronged : Int32} {v_bodies : Int32} {v_ran : Int32} {v_ownKind : Int32} {v_ownNumber : Int32} {v_limit : List Int32} {v_changeWas : List Int32} {v_changeIs : List Int32} {v_shapeRows : List Int32} {v_shapeColumns : List Int32} {v_row : List Int32} {v_column : List Int32} {v_below : List Int32} {v_face : List Int32} {v_worn : List Int32} {v_lastBend : List Int32} {v_bends : List Int32} {v_high : List Int32} {v_to : List Int32} {v_pileSize : List Int32} {v_planLine : List Int32} {v_planWay : List Int32} {v_way1 : List Int32} {v_bestWay : List Int32} {v_order1 : List Int32} {v_placeIn : List Int32} {v_bodyKind : List Int32} {v_trace : List Int32} {v_shelf : List Int32} {v_many : List Int32} {v_items : List Int64} {v_carried : List Int64} {r : Int32} {w_base : Int32} {w_at : Int32} {w_ends : Int32} {w_fault : Int32} {w_opened : Int32} (N : Nat) {k_33 : Int32 → Int32 → Int32 → Int32 → Int32 → Int32 → Int32 → Int32 → List Int32 → List Int32 → List Int32 → Option (Int32 × Int32 × Int32 × Int32 × Int32 × Int32)} (hk_33 : ∀ (x3 : Int32) (x4 : Int32) (x5 : Int32) (v_base : Int32) (v_at : Int32) (v_ends : Int32) (v_fault : Int32) (v_opened : Int32) (v_tape : List Int32) (v_text : List Int32) (v_names : List Int32) (H : Heap) (locs : List Loc) (ls : Array Slot), k_33 x3 x4 x5 v_base v_at v_ends v_fault v_opened v_tape v_text v_names = some (r, w_base, w_at, w_ends, w_fault, w_opened) → va_P D mm_cl (wd_X9 cI cL cS cH a v_keptMany v_done v_rowsOf v_columnsOf v_folded v_wronged v_tapeMany v_textMany v_base v_at v_ends v_fault v_opened v_bentMany v_bentWrong v_moreWorn v_planned v_allWrong v_allWorn v_z v_wishedField v_isFound v_bestWrong v_bestWorn v_bestMany v_soughtBy v_sought v_soughtAt v_foundMany v_foundOrder v_isKept v_imageRows v_imageColumns v_imageFolded v_imageWronged v_bodies v_ran v_ownKind v_ownNumber v_limit v_changeWas v_changeIs v_shapeRows v_shapeColumns v_row v_column v_below v_face v_worn v_lastBend v_tape v_text v_names v_bends v_high v_to v_pileSize v_planLine v_planWay v_way1 v_bestWay v_order1 v_placeIn v_bodyKind v_trace v_shelf v_many v_items v_carried) H → va_D A (wd_X9 cI cL cS cH a v_keptMany v_done v_rowsOf v_columnsOf v_folded v_wronged v_tapeMany v_textMany v_base v_at v_ends v_fault v_opened v_bentMany v_bentWrong v_moreWorn v_planned v_allWrong v_allWorn v_z v_wishedField v_isFound v_bestWrong v_bestWorn v_bestMany v_soughtBy v_sought v_soughtAt v_foundMany v_foundOrder v_isKept v_imageRows v_imageColumns v_imageFolded v_imageWronged v_bodies v_ran v_ownKind v_ownNumber v_limit v_changeWas v_changeIs v_shapeRows v_shapeColumns v_row v_column v_below v_face v_worn v_lastBend v_tape v_text v_names v_bends v_high v_to v_pileSize v_planLine v_planWay v_way1 v_bestWay v_order1 v_placeIn v_bodyKind v_trace v_shelf v_many v_items v_carried) → va_S A s.heap H locs → lv_has ls 8 [(0, .ref (a 0)), (3, .int x3), (4, .int x4), (5, .int x5)] → W p l e (mm_rr d) s m args below meth c H locs 0 0 (mm_Z below D A (wd_X9 cI cL cS cH a v_keptMany v_done v_rowsOf v_columnsOf v_folded v_wronged v_tapeMany v_textMany w_base w_at w_ends w_fault w_opened v_bentMany v_bentWrong v_moreWorn v_planned v_allWrong v_allWorn v_z v_wishedField v_isFound v_bestWrong v_bestWorn v_bestMany v_soughtBy v_sought v_soughtAt v_foundMany v_foundOrder v_isKept v_imageRows v_imageColumns v_imageFolded v_imageWronged v_bodies v_ran v_ownKind v_ownNumber v_limit v_changeWas v_changeIs v_shapeRows v_shapeColumns v_row v_column v_below v_face v_worn v_lastBend v_tape v_text v_names v_bends v_high v_to v_pileSize v_planLine v_planWay v_way1 v_bestWay v_order1 v_placeIn v_bodyKind v_trace v_shelf v_many v_items v_carried) (some (.int r)) args s) (F0 m 33 ls [])) : ∀ (x3 : Int32) (x4 : Int32) (v_base : Int32) (v_at : Int32) (v_ends : Int32) (v_fault : Int32) (v_opened : Int32) (v_tape : List Int32) (v_text : List Int32) (v_names : List Int32) (H : Heap) (locs : List Loc) (ls : Array Slot), fX9_workOut_96 N k_33 x3 x4 v_base v_at v_ends v_fault v_opened v_tape v_text v_names = some (r, w_base, w_at, w_ends, w_fault, w_opened) → va_P D mm_cl (wd_X9 cI cL cS cH a v_keptMany v_done v_rowsOf v_columnsOf v_folded v_wronged v_tapeMany v_textMany v_base v_at v_ends v_fault v_opened v_bentMany v_bentWrong v_moreWorn v_planned v_allWrong v_allWorn v_z v_wishedField v_isFound v_bestWrong v_bestWorn v_bestMany v_soughtBy v_sought v_soughtAt v_foundMany v_foundOrder v_isKept v_imageRows v_imageColumns v_imageFolded v_imageWronged v_bodies v_ran v_ownKind v_ownNumber v_limit v_changeWas v_changeIs v_shapeRows v_shapeColumns v_row v_column v_below v_face v_worn v_lastBend v_tape v_text v_names v_bends v_high v_to v_pileSize v_planLine v_planWay v_way1 v_bestWay v_order1 v_placeIn v_bodyKind v_trace v_shelf v_many v_items v_carried) H → va_D A (wd_X9 cI cL cS cH a v_keptMany v_done v_rowsOf v_columnsOf v_folded v_wronged v_tapeMany v_textMany v_base v_at v_ends v_fault v_opened v_bentMany v_bentWrong v_moreWorn v_planned v_allWrong v_allWorn v_z v_wishedField v_isFound v_bestWrong v_bestWorn v_bestMany v_soughtBy v_sought v_soughtAt v_foundMany v_foundOrder v_isKept v_imageRows v_imageColumns v_imageFolded v_imageWronged v_bodies v_ran v_ownKind v_ownNumber v_limit v_changeWas v_changeIs v_shapeRows v_shapeColumns v_row v_column v_below v_face v_worn v_lastBend v_tape v_text v_names v_bends v_high v_to v_pileSize v_planLine v_planWay v_way1 v_bestWay v_order1 v_placeIn v_bodyKind v_trace v_shelf v_many v_items v_carried) → va_S A s.heap H locs → lv_has ls 8 [(0, .ref (a 0)), (3, .int x3), (4, .int x4)] → W p l e (mm_rr d) s m args below meth c H locs 0 0 (mm_Z below D A (wd_X9 cI cL cS cH a v_keptMany v_done v_rowsOf v_columnsOf v_folded v_wronged v_tapeMany v_textMany w_base w_at w_ends w_fault w_opened v_bentMany v_bentWrong v_moreWorn v_planned v_allWrong v_allWorn v_z v_wishedField v_isFound v_bestWrong v_bestWorn v_bestMany v_soughtBy v_sought v_soughtAt v_foundMany v_foundOrder v_isKept v_imageRows v_imageColumns v_imageFolded v_imageWronged v_bodies v_ran v_ownKind v_ownNumber v_limit v_changeWas v_changeIs v_shapeRows v_shapeColumns v_row v_column v_below v_face v_worn v_lastBend v_tape v_text v_names v_bends v_high v_to v_pileSize v_planLine v_planWay v_way1 v_bestWay v_order1 v_placeIn v_bodyKind v_trace v_shelf v_many v_items v_carried) (some (.int r)) args s) (F0 m 96 ls []) := by
  obtain ⟨hx, hb, hml, hown, hts, hr, hlocks, hK, hSt⟩ := id C0
  intro x3 x4 v_base v_at v_ends v_fault v_opened v_tape v_text v_names H locs ls hf hP hD hS hl
  unfold fX9_workOut_96 at hf
  refine lv_aload_n hx hb dX9_workOut_96 rfl (lv_at hl 0 rfl) ?_
  refine lv_bipush (v := 59) hx hb dX9_workOut_97 (by decide) ?_
  obtain ⟨r_25, w_26, hc_27, hf⟩ := mm_bd2s hf
  refine mm_callVF (q0 := 0) (ci := 9) (rest := []) C0 lk_X9_168 (ctX9_takes (a := a) (d := d - 1) (by omega) hc_27) (by omega) rfl hl.1 rfl (mm_cat rfl) dX9_workOut_99 hP hD hA hS rfl rfl (fun H locs hP hD hS => ?_)
  refine W.eq (g2 := F0 m 102 ls [.int (mm_b r_25)]) rfl ?_
  refine lv_istore (lv' := [(5, .int (mm_b r_25)), (0, .ref (a 0)), (3, .int x3), (4, .int x4)]) hx hb dX9_workOut_102 hl (by decide) rfl (fun ls hl => ?_)
  refine lv_goto (tgt := 33) hx hb dX9_workOut_104 (by decide) ?_
  exact hk_33 _ _ _ _ _ _ _ _ _ _ _ H locs ls hf hP hD hS (lv_sub hl [1, 2, 3, 0] rfl)

def fX9_workOut_74 (N : Nat) (k_33 : Int32 → Int32 → Int32 → Int32 → Int32 → Int32 → Int32 → Int32 → List Int32 → List Int32 → List Int32 → Option (Int32 × Int32 × Int32 × Int32 × Int32 × Int32)) (x3 : Int32) (x4 : Int32) (x6 : Int32) (x7 : Int32) (v_base : Int32) (v_at : Int32) (v_ends : Int32) (v_fault : Int32) (v_opened : Int32) (v_tape : List Int32) (v_text : List Int32) (v_names : List Int32) : Option (Int32 × Int32 × Int32 × Int32 × Int32 × Int32) :=
    if 0 ≤ v_fault then
    (fX9_workOut_96 N k_33 x3 x4 v_base v_at v_ends v_fault v_opened v_tape v_text v_names)
    else (if x7 = 0 then
    (fX9_workOut_96 N k_33 x3 x4 v_base v_at v_ends v_fault v_opened v_tape v_text v_names)
    else (if x3 = 0 then
    (fX9_workOut_96 N k_33 (1 : Int32) x6 v_base v_at v_ends v_fault v_opened v_tape v_text v_names)
    else (fX9_workOut_96 N k_33 x3 x4 v_base v_at v_ends v_fault v_opened v_tape v_text v_names)))

set_option maxHeartbeats 4000000 in
set_option maxRecDepth 100000 in
theorem tX9_workOut_74 {p : Program} {l : Launch} {e : Env} {s : State} {m : MethodId} {args : Array Value} {below : List Frame} {meth : Method} {c : Code} {D : va_G} {cI cL cS cH : ClassId} {A : Nat → Prop} {d : Nat} {a : Nat → Nat} (hd : 56 ≤ d) (C0 : mm_Cx p s m args meth c RX9 cX9_workOut 8 (some .int) D (mm_T cI cL cS cH) A) (hA : ∀ q, s.heap.size ≤ q → A q) {v_keptMany : Int32} {v_done : Int32} {v_rowsOf : Int32} {v_columnsOf : Int32} {v_folded : Int32} {v_wronged : Int32} {v_tapeMany : Int32} {v_textMany : Int32} {v_bentMany : Int32} {v_bentWrong : Int32} {v_moreWorn : Int32} {v_planned : Int32} {v_allWrong : Int32} {v_allWorn : Int32} {v_z : Int32} {v_wishedField : Int32} {v_isFound : Bool} {v_bestWrong : Int32} {v_bestWorn : Int32} {v_bestMany : Int32} {v_soughtBy : Int32} {v_sought : Int32} {v_soughtAt : Int32} {v_foundMany : Int32} {v_foundOrder : Int32} {v_isKept : Bool} {v_imageRows : Int32} {v_imageColumns : Int32} {v_imageFolded : Int32} {v_imageWronged : Int32} {v_bodies : Int32} {v_ran : Int32} {v_ownKind : Int32} {v_ownNumber : Int32} {v_limit : List Int32} {v_changeWas : List Int32} {v_changeIs : List Int32} {v_shapeRows : List Int32} {v_shapeColumns : List Int32} {v_row : List Int32} {v_column : List Int32} {v_below : List Int32} {v_face : List Int32} {v_worn : List Int32} {v_lastBend : List Int32} {v_bends : List Int32} {v_high : List Int32} {v_to : List Int32} {v_pileSize : List Int32} {v_planLine : List Int32} {v_planWay : List Int32} {v_way1 : List Int32} {v_bestWay : List Int32} {v_order1 : List Int32} {v_placeIn : List Int32} {v_bodyKind : List Int32} {v_trace : List Int32} {v_shelf : List Int32} {v_many : List Int32} {v_items : List Int64} {v_carried : List Int64} {r : Int32} {w_base : Int32} {w_at : Int32} {w_ends : Int32} {w_fault : Int32} {w_opened : Int32} (N : Nat) {k_33 : Int32 → Int32 → Int32 → Int32 → Int32 → Int32 → Int32 → Int32 → List Int32 → List Int32 → List Int32 → Option (Int32 × Int32 × Int32 × Int32 × Int32 × Int32)} (hk_33 : ∀ (x3 : Int32) (x4 : Int32) (x5 : Int32) (v_base : Int32) (v_at : Int32) (v_ends : Int32) (v_fault : Int32) (v_opened : Int32) (v_tape : List Int32) (v_text : List Int32) (v_names : List Int32) (H : Heap) (locs : List Loc) (ls : Array Slot), k_33 x3 x4 x5 v_base v_at v_ends v_fault v_opened v_tape v_text v_names = some (r, w_base, w_at, w_ends, w_fault, w_opened) → va_P D mm_cl (wd_X9 cI cL cS cH a v_keptMany v_done v_rowsOf v_columnsOf v_folded v_wronged v_tapeMany v_textMany v_base v_at v_ends v_fault v_opened v_bentMany v_bentWrong v_moreWorn v_planned v_allWrong v_allWorn v_z v_wishedField v_isFound v_bestWrong v_bestWorn v_bestMany v_soughtBy v_sought v_soughtAt v_foundMany v_foundOrder v_isKept v_imageRows v_imageColumns v_imageFolded v_imageWronged v_bodies v_ran v_ownKind v_ownNumber v_limit v_changeWas v_changeIs v_shapeRows v_shapeColumns v_row v_column v_below v_face v_worn v_lastBend v_tape v_text v_names v_bends v_high v_to v_pileSize v_planLine v_planWay v_way1 v_bestWay v_order1 v_placeIn v_bodyKind v_trace v_shelf v_many v_items v_carried) H → va_D A (wd_X9 cI cL cS cH a v_keptMany v_done v_rowsOf v_columnsOf v_folded v_wronged v_tapeMany v_textMany v_base v_at v_ends v_fault v_opened v_bentMany v_bentWrong v_moreWorn v_planned v_allWrong v_allWorn v_z v_wishedField v_isFound v_bestWrong v_bestWorn v_bestMany v_soughtBy v_sought v_soughtAt v_foundMany v_foundOrder v_isKept v_imageRows v_imageColumns v_imageFolded v_imageWronged v_bodies v_ran v_ownKind v_ownNumber v_limit v_changeWas v_changeIs v_shapeRows v_shapeColumns v_row v_column v_below v_face v_worn v_lastBend v_tape v_text v_names v_bends v_high v_to v_pileSize v_planLine v_planWay v_way1 v_bestWay v_order1 v_placeIn v_bodyKind v_trace v_shelf v_many v_items v_carried) → va_S A s.heap H locs → lv_has ls 8 [(0, .ref (a 0)), (3, .int x3), (4, .int x4), (5, .int x5)] → W p l e (mm_rr d) s m args below meth c H locs 0 0 (mm_Z below D A (wd_X9 cI cL cS cH a v_keptMany v_done v_rowsOf v_columnsOf v_folded v_wronged v_tapeMany v_textMany w_base w_at w_ends w_fault w_opened v_bentMany v_bentWrong v_moreWorn v_planned v_allWrong v_allWorn v_z v_wishedField v_isFound v_bestWrong v_bestWorn v_bestMany v_soughtBy v_sought v_soughtAt v_foundMany v_foundOrder v_isKept v_imageRows v_imageColumns v_imageFolded v_imageWronged v_bodies v_ran v_ownKind v_ownNumber v_limit v_changeWas v_changeIs v_shapeRows v_shapeColumns v_row v_column v_below v_face v_worn v_lastBend v_tape v_text v_names v_bends v_high v_to v_pileSize v_planLine v_planWay v_way1 v_bestWay v_order1 v_placeIn v_bodyKind v_trace v_shelf v_many v_items v_carried) (some (.int r)) args s) (F0 m 33 ls [])) : ∀ (x3 : Int32) (x4 : Int32) (x6 : Int32) (x7 : Int32) (v_base : Int32) (v_at : Int32) (v_ends : Int32) (v_fault : Int32) (v_opened : Int32) (v_tape : List Int32) (v_text : List Int32) (v_names : List Int32) (H : Heap) (locs : List Loc) (ls : Array Slot), fX9_workOut_74 N k_33 x3 x4 x6 x7 v_base v_at v_ends v_fault v_opened v_tape v_text v_names = some (r, w_base, w_at, w_ends, w_fault, w_opened) → va_P D mm_cl (wd_X9 cI cL cS cH a v_keptMany v_done v_rowsOf v_columnsOf v_folded v_wronged v_tapeMany v_textMany v_base v_at v_ends v_fault v_opened v_bentMany v_bentWrong v_moreWorn v_planned v_allWrong v_allWorn v_z v_wishedField v_isFound v_bestWrong v_bestWorn v_bestMany v_soughtBy v_sought v_soughtAt v_foundMany v_foundOrder v_isKept v_imageRows v_imageColumns v_imageFolded v_imageWronged v_bodies v_ran v_ownKind v_ownNumber v_limit v_changeWas v_changeIs v_shapeRows v_shapeColumns v_row v_column v_below v_face v_worn v_lastBend v_tape v_text v_names v_bends v_high v_to v_pileSize v_planLine v_planWay v_way1 v_bestWay v_order1 v_placeIn v_bodyKind v_trace v_shelf v_many v_items v_carried) H → va_D A (wd_X9 cI cL cS cH a v_keptMany v_done v_rowsOf v_columnsOf v_folded v_wronged v_tapeMany v_textMany v_base v_at v_ends v_fault v_opened v_bentMany v_bentWrong v_moreWorn v_planned v_allWrong v_allWorn v_z v_wishedField v_isFound v_bestWrong v_bestWorn v_bestMany v_soughtBy v_sought v_soughtAt v_foundMany v_foundOrder v_isKept v_imageRows v_imageColumns v_imageFolded v_imageWronged v_bodies v_ran v_ownKind v_ownNumber v_limit v_changeWas v_changeIs v_shapeRows v_shapeColumns v_row v_column v_below v_face v_worn v_lastBend v_tape v_text v_names v_bends v_high v_to v_pileSize v_planLine v_planWay v_way1 v_bestWay v_order1 v_placeIn v_bodyKind v_trace v_shelf v_many v_items v_carried) → va_S A s.heap H locs → lv_has ls 8 [(0, .ref (a 0)), (3, .int x3), (4, .int x4), (6, .int x6), (7, .int x7)] → W p l e (mm_rr d) s m args below meth c H locs 0 0 (mm_Z below D A (wd_X9 cI cL cS cH a v_keptMany v_done v_rowsOf v_columnsOf v_folded v_wronged v_tapeMany v_textMany w_base w_at w_ends w_fault w_opened v_bentMany v_bentWrong v_moreWorn v_planned v_allWrong v_allWorn v_z v_wishedField v_isFound v_bestWrong v_bestWorn v_bestMany v_soughtBy v_sought v_soughtAt v_foundMany v_foundOrder v_isKept v_imageRows v_imageColumns v_imageFolded v_imageWronged v_bodies v_ran v_ownKind v_ownNumber v_limit v_changeWas v_changeIs v_shapeRows v_shapeColumns v_row v_column v_below v_face v_worn v_lastBend v_tape v_text v_names v_bends v_high v_to v_pileSize v_planLine v_planWay v_way1 v_bestWay v_order1 v_placeIn v_bodyKind v_trace v_shelf v_many v_items v_carried) (some (.int r)) args s) (F0 m 74 ls []) := by
  obtain ⟨hx, hb, hml, hown, hts, hr, hlocks, hK, hSt⟩ := id C0
  intro x3 x4 x6 x7 v_base v_at v_ends v_fault v_opened v_tape v_text v_names H locs ls hf hP hD hS hl
  unfold fX9_workOut_74 at hf
  refine lv_aload_n hx hb dX9_workOut_74 rfl (lv_at hl 0 rfl) ?_
  refine mm_get C0 hP iw_X9 0 rfl rfl 24 (by decide) fl_X9_159 rfl dX9_workOut_75 ?_
  refine lv_if_ge (tgt := 96) hx hb dX9_workOut_78 (by decide) (fun c_22 => ?_) (fun c_22 => ?_)
  · have hf := mm_ip hf c_22
    exact tX9_workOut_96 hd C0 hA N hk_33 _ _ _ _ _ _ _ _ _ _ H locs ls hf hP hD hS (lv_sub hl [0, 1, 2] rfl)
  · have hf := mm_in hf c_22
    refine lv_iload hx hb dX9_workOut_81 (lv_at hl 4 rfl) ?_
    refine lv_if_eq (tgt := 96) hx hb dX9_workOut_83 (by decide) (fun c_23 => ?_) (fun c_23 => ?_)
    · have hf := mm_ip hf c_23
      exact tX9_workOut_96 hd C0 hA N hk_33 _ _ _ _ _ _ _ _ _ _ H locs ls hf hP hD hS (lv_sub hl [0, 1, 2] rfl)
    · have hf := mm_in hf c_23
      refine lv_iload_n hx hb dX9_workOut_86 rfl (lv_at hl 1 rfl) ?_
      refine lv_if_ne (tgt := 96) hx hb dX9_workOut_87 (by decide) (fun c_24 => ?_) (fun c_24 => ?_)
      · have hf := mm_in hf c_24
        exact tX9_workOut_96 hd C0 hA N hk_33 _ _ _ _ _ _ _ _ _ _ H locs ls hf hP hD hS (lv_sub hl [0, 1, 2] rfl)
      · have hf := mm_ip hf c_24
        refine lv_iconst (v := 1) hx hb dX9_workOut_90 (by decide) ?_
        refine lv_istore_n (lv' := [(3, .int (1 : Int32)), (0, .ref (a 0)), (4, .int x4), (6, .int x6), (7, .int x7)]) hx hb dX9_workOut_91 rfl hl (by decide) rfl (fun ls hl => ?_)
        refine lv_iload hx hb dX9_workOut_92 (lv_at hl 3 rfl) ?_
        refine lv_istore (lv' := [(4, .int x6), (3, .int (1 : Int32)), (0, .ref (a 0)), (6, .int x6), (7, .int x7)]) hx hb dX9_workOut_94 hl (by decide) rfl (fun ls hl => ?_)
        exact tX9_workOut_96 hd C0 hA N hk_33 _ _ _ _ _ _ _ _ _ _ H locs ls hf hP hD hS (lv_sub hl [2, 1, 0] rfl)

def fX9_workOut_66 (N : Nat) (k_33 : Int32 → Int32 → Int32 → Int32 → Int32 → Int32 → Int32 → Int32 → List Int32 → List Int32 → List Int32 → Option (Int32 × Int32 × Int32 × Int32 × Int32 × Int32)) (x3 : Int32) (x4 : Int32) (s0 : Int32) (v_base : Int32) (v_at : Int32) (v_ends : Int32) (v_fault : Int32) (v_opened : Int32) (v_tape : List Int32) (v_text : List Int32) (v_names : List Int32) : Option (Int32 × Int32 × Int32 × Int32 × Int32 × Int32) :=
    mm_bd4 (fX9_either N (fX9_one N 8) v_base v_at v_ends v_fault v_opened v_tape v_text v_names) (fun (r_17 : Int32) (w_18 : Int32) (w_19 : Int32) (w_20 : Int32) =>
    fX9_workOut_74 N k_33 x3 x4 r_17 s0 v_base w_18 v_ends w_19 w_20 v_tape v_text v_names)

set_option maxHeartbeats 4000000 in
set_option maxRecDepth 100000 in
theorem tX9_workOut_66 {p : Program} {l : Launch} {e : Env} {s : State} {m : MethodId} {args : Array Value} {below : List Frame} {meth : Method} {c : Code} {D : va_G} {cI cL cS cH : ClassId} {A : Nat → Prop} {d : Nat} {a : Nat → Nat} (hd : 56 ≤ d) (C0 : mm_Cx p s m args meth c RX9 cX9_workOut 8 (some .int) D (mm_T cI cL cS cH) A) (hA : ∀ q, s.heap.size ≤ q → A q) {v_keptMany : Int32} {v_done : Int32} {v_rowsOf : Int32} {v_columnsOf : Int32} {v_folded : Int32} {v_wronged : Int32} {v_tapeMany : Int32} {v_textMany : Int32} {v_bentMany : Int32} {v_bentWrong : Int32} {v_moreWorn : Int32} {v_planned : Int32} {v_allWrong : Int32} {v_allWorn : Int32} {v_z : Int32} {v_wishedField : Int32} {v_isFound : Bool} {v_bestWrong : Int32} {v_bestWorn : Int32} {v_bestMany : Int32} {v_soughtBy : Int32} {v_sought : Int32} {v_soughtAt : Int32} {v_foundMany : Int32} {v_foundOrder : Int32} {v_isKept : Bool} {v_imageRows : Int32} {v_imageColumns : Int32} {v_imageFolded : Int32} {v_imageWronged : Int32} {v_bodies : Int32} {v_ran : Int32} {v_ownKind : Int32} {v_ownNumber : Int32} {v_limit : List Int32} {v_changeWas : List Int32} {v_changeIs : List Int32} {v_shapeRows : List Int32} {v_shapeColumns : List Int32} {v_row : List Int32} {v_column : List Int32} {v_below : List Int32} {v_face : List Int32} {v_worn : List Int32} {v_lastBend : List Int32} {v_bends : List Int32} {v_high : List Int32} {v_to : List Int32} {v_pileSize : List Int32} {v_planLine : List Int32} {v_planWay : List Int32} {v_way1 : List Int32} {v_bestWay : List Int32} {v_order1 : List Int32} {v_placeIn : List Int32} {v_bodyKind : List Int32} {v_trace : List Int32} {v_shelf : List Int32} {v_many : List Int32} {v_items : List Int64} {v_carried : List Int64} {r : Int32} {w_base : Int32} {w_at : Int32} {w_ends : Int32} {w_fault : Int32} {w_opened : Int32} (N : Nat) {k_33 : Int32 → Int32 → Int32 → Int32 → Int32 → Int32 → Int32 → Int32 → List Int32 → List Int32 → List Int32 → Option (Int32 × Int32 × Int32 × Int32 × Int32 × Int32)} (hk_33 : ∀ (x3 : Int32) (x4 : Int32) (x5 : Int32) (v_base : Int32) (v_at : Int32) (v_ends : Int32) (v_fault : Int32) (v_opened : Int32) (v_tape : List Int32) (v_text : List Int32) (v_names : List Int32) (H : Heap) (locs : List Loc) (ls : Array Slot), k_33 x3 x4 x5 v_base v_at v_ends v_fault v_opened v_tape v_text v_names = some (r, w_base, w_at, w_ends, w_fault, w_opened) → va_P D mm_cl (wd_X9 cI cL cS cH a v_keptMany v_done v_rowsOf v_columnsOf v_folded v_wronged v_tapeMany v_textMany v_base v_at v_ends v_fault v_opened v_bentMany v_bentWrong v_moreWorn v_planned v_allWrong v_allWorn v_z v_wishedField v_isFound v_bestWrong v_bestWorn v_bestMany v_soughtBy v_sought v_soughtAt v_foundMany v_foundOrder v_isKept v_imageRows v_imageColumns v_imageFolded v_imageWronged v_bodies v_ran v_ownKind v_ownNumber v_limit v_changeWas v_changeIs v_shapeRows v_shapeColumns v_row v_column v_below v_face v_worn v_lastBend v_tape v_text v_names v_bends v_high v_to v_pileSize v_planLine v_planWay v_way1 v_bestWay v_order1 v_placeIn v_bodyKind v_trace v_shelf v_many v_items v_carried) H → va_D A (wd_X9 cI cL cS cH a v_keptMany v_done v_rowsOf v_columnsOf v_folded v_wronged v_tapeMany v_textMany v_base v_at v_ends v_fault v_opened v_bentMany v_bentWrong v_moreWorn v_planned v_allWrong v_allWorn v_z v_wishedField v_isFound v_bestWrong v_bestWorn v_bestMany v_soughtBy v_sought v_soughtAt v_foundMany v_foundOrder v_isKept v_imageRows v_imageColumns v_imageFolded v_imageWronged v_bodies v_ran v_ownKind v_ownNumber v_limit v_changeWas v_changeIs v_shapeRows v_shapeColumns v_row v_column v_below v_face v_worn v_lastBend v_tape v_text v_names v_bends v_high v_to v_pileSize v_planLine v_planWay v_way1 v_bestWay v_order1 v_placeIn v_bodyKind v_trace v_shelf v_many v_items v_carried) → va_S A s.heap H locs → lv_has ls 8 [(0, .ref (a 0)), (3, .int x3), (4, .int x4), (5, .int x5)] → W p l e (mm_rr d) s m args below meth c H locs 0 0 (mm_Z below D A (wd_X9 cI cL cS cH a v_keptMany v_done v_rowsOf v_columnsOf v_folded v_wronged v_tapeMany v_textMany w_base w_at w_ends w_fault w_opened v_bentMany v_bentWrong v_moreWorn v_planned v_allWrong v_allWorn v_z v_wishedField v_isFound v_bestWrong v_bestWorn v_bestMany v_soughtBy v_sought v_soughtAt v_foundMany v_foundOrder v_isKept v_imageRows v_imageColumns v_imageFolded v_imageWronged v_bodies v_ran v_ownKind v_ownNumber v_limit v_changeWas v_changeIs v_shapeRows v_shapeColumns v_row v_column v_below v_face v_worn v_lastBend v_tape v_text v_names v_bends v_high v_to v_pileSize v_planLine v_planWay v_way1 v_bestWay v_order1 v_placeIn v_bodyKind v_trace v_shelf v_many v_items v_carried) (some (.int r)) args s) (F0 m 33 ls [])) : ∀ (x3 : Int32) (x4 : Int32) (s0 : Int32) (v_base : Int32) (v_at : Int32) (v_ends : Int32) (v_fault : Int32) (v_opened : Int32) (v_tape : List Int32) (v_text : List Int32) (v_names : List Int32) (H : Heap) (locs : List Loc) (ls : Array Slot), fX9_workOut_66 N k_33 x3 x4 s0 v_base v_at v_ends v_fault v_opened v_tape v_text v_names = some (r, w_base, w_at, w_ends, w_fault, w_opened) → va_P D mm_cl (wd_X9 cI cL cS cH a v_keptMany v_done v_rowsOf v_columnsOf v_folded v_wronged v_tapeMany v_textMany v_base v_at v_ends v_fault v_opened v_bentMany v_bentWrong v_moreWorn v_planned v_allWrong v_allWorn v_z v_wishedField v_isFound v_bestWrong v_bestWorn v_bestMany v_soughtBy v_sought v_soughtAt v_foundMany v_foundOrder v_isKept v_imageRows v_imageColumns v_imageFolded v_imageWronged v_bodies v_ran v_ownKind v_ownNumber v_limit v_changeWas v_changeIs v_shapeRows v_shapeColumns v_row v_column v_below v_face v_worn v_lastBend v_tape v_text v_names v_bends v_high v_to v_pileSize v_planLine v_planWay v_way1 v_bestWay v_order1 v_placeIn v_bodyKind v_trace v_shelf v_many v_items v_carried) H → va_D A (wd_X9 cI cL cS cH a v_keptMany v_done v_rowsOf v_columnsOf v_folded v_wronged v_tapeMany v_textMany v_base v_at v_ends v_fault v_opened v_bentMany v_bentWrong v_moreWorn v_planned v_allWrong v_allWorn v_z v_wishedField v_isFound v_bestWrong v_bestWorn v_bestMany v_soughtBy v_sought v_soughtAt v_foundMany v_foundOrder v_isKept v_imageRows v_imageColumns v_imageFolded v_imageWronged v_bodies v_ran v_ownKind v_ownNumber v_limit v_changeWas v_changeIs v_shapeRows v_shapeColumns v_row v_column v_below v_face v_worn v_lastBend v_tape v_text v_names v_bends v_high v_to v_pileSize v_planLine v_planWay v_way1 v_bestWay v_order1 v_placeIn v_bodyKind v_trace v_shelf v_many v_items v_carried) → va_S A s.heap H locs → lv_has ls 8 [(0, .ref (a 0)), (3, .int x3), (4, .int x4)] → W p l e (mm_rr d) s m args below meth c H locs 0 0 (mm_Z below D A (wd_X9 cI cL cS cH a v_keptMany v_done v_rowsOf v_columnsOf v_folded v_wronged v_tapeMany v_textMany w_base w_at w_ends w_fault w_opened v_bentMany v_bentWrong v_moreWorn v_planned v_allWrong v_allWorn v_z v_wishedField v_isFound v_bestWrong v_bestWorn v_bestMany v_soughtBy v_sought v_soughtAt v_foundMany v_foundOrder v_isKept v_imageRows v_imageColumns v_imageFolded v_imageWronged v_bodies v_ran v_ownKind v_ownNumber v_limit v_changeWas v_changeIs v_shapeRows v_shapeColumns v_row v_column v_below v_face v_worn v_lastBend v_tape v_text v_names v_bends v_high v_to v_pileSize v_planLine v_planWay v_way1 v_bestWay v_order1 v_placeIn v_bodyKind v_trace v_shelf v_many v_items v_carried) (some (.int r)) args s) (F0 m 66 ls [.int s0]) := by
  obtain ⟨hx, hb, hml, hown, hts, hr, hlocks, hK, hSt⟩ := id C0
  intro x3 x4 s0 v_base v_at v_ends v_fault v_opened v_tape v_text v_names H locs ls hf hP hD hS hl
  unfold fX9_workOut_66 at hf
  refine lv_istore (lv' := [(7, .int s0), (0, .ref (a 0)), (3, .int x3), (4, .int x4)]) hx hb dX9_workOut_66 hl (by decide) rfl (fun ls hl => ?_)
  refine lv_aload_n hx hb dX9_workOut_68 rfl (lv_at hl 1 rfl) ?_
  obtain ⟨r_17, w_18, w_19, w_20, hc_21, hf⟩ := mm_bd4s hf
  refine mm_callVF (q0 := 0) (ci := 9) (rest := []) C0 lk_X9_190 (ctX9_either (a := a) (d := d - 1) (dgo := 50) (ctX9_one (N := N) 8 50 (by decide)) (by decide) (by omega) hc_21) (by omega) rfl hl.1 rfl (mm_cat rfl) dX9_workOut_69 hP hD hA hS rfl rfl (fun H locs hP hD hS => ?_)
  refine W.eq (g2 := F0 m 72 ls [.int r_17]) rfl ?_
  refine lv_istore (lv' := [(6, .int r_17), (7, .int s0), (0, .ref (a 0)), (3, .int x3), (4, .int x4)]) hx hb dX9_workOut_72 hl (by decide) rfl (fun ls hl => ?_)
  exact tX9_workOut_74 hd C0 hA N hk_33 _ _ _ _ _ _ _ _ _ _ _ _ H locs ls hf hP hD hS (lv_sub hl [2, 3, 4, 0, 1] rfl)

def fX9_workOut_33 (N : Nat)  : Nat → Int32 → Int32 → Int32 → Int32 → Int32 → Int32 → Int32 → Int32 → List Int32 → List Int32 → List Int32 → Option (Int32 × Int32 × Int32 × Int32 × Int32 × Int32)
  | 0 => fun _ _ _ _ _ _ _ _ _ _ _ => none
  | n + 1 => fun x3 x4 x5 v_base v_at v_ends v_fault v_opened v_tape v_text v_names =>
    if x5 = 0 then
    (if 0 ≤ v_fault then
    (some (x4, v_base, v_at, v_ends, v_fault, v_opened))
    else (if v_ends ≤ v_at then
    (some (x4, v_base, v_at, v_ends, v_fault, v_opened))
    else (mm_bd2 (fX9_wrong N v_at v_fault) (fun (r_4 : Int32) (w_5 : Int32) =>
    some (r_4, v_base, v_at, v_ends, w_5, v_opened)))))
    else (mm_bd4 (fX9_either N (fX9_one N 8) v_base v_at v_ends v_fault v_opened v_tape v_text v_names) (fun (r_7 : Int32) (w_8 : Int32) (w_9 : Int32) (w_10 : Int32) =>
    mm_bd2 (fX9_takes N (63 : Int32) v_base w_8 v_ends w_9 v_tape v_text) (fun (r_12 : Bool) (w_13 : Int32) =>
    if r_12 = false then
    (fX9_workOut_74 N (fX9_workOut_33 N n) x3 x4 r_7 (1 : Int32) v_base w_13 v_ends w_9 w_10 v_tape v_text v_names)
    else (if r_7 = 0 then
    (fX9_workOut_66 N (fX9_workOut_33 N n) x3 x4 (0 : Int32) v_base w_13 v_ends w_9 w_10 v_tape v_text v_names)
    else (fX9_workOut_66 N (fX9_workOut_33 N n) x3 x4 (1 : Int32) v_base w_13 v_ends w_9 w_10 v_tape v_text v_names)))))

set_option maxHeartbeats 4000000 in
set_option maxRecDepth 100000 in
theorem tX9_workOut_33 {p : Program} {l : Launch} {e : Env} {s : State} {m : MethodId} {args : Array Value} {below : List Frame} {meth : Method} {c : Code} {D : va_G} {cI cL cS cH : ClassId} {A : Nat → Prop} {d : Nat} {a : Nat → Nat} (hd : 56 ≤ d) (C0 : mm_Cx p s m args meth c RX9 cX9_workOut 8 (some .int) D (mm_T cI cL cS cH) A) (hA : ∀ q, s.heap.size ≤ q → A q) {v_keptMany : Int32} {v_done : Int32} {v_rowsOf : Int32} {v_columnsOf : Int32} {v_folded : Int32} {v_wronged : Int32} {v_tapeMany : Int32} {v_textMany : Int32} {v_bentMany : Int32} {v_bentWrong : Int32} {v_moreWorn : Int32} {v_planned : Int32} {v_allWrong : Int32} {v_allWorn : Int32} {v_z : Int32} {v_wishedField : Int32} {v_isFound : Bool} {v_bestWrong : Int32} {v_bestWorn : Int32} {v_bestMany : Int32} {v_soughtBy : Int32} {v_sought : Int32} {v_soughtAt : Int32} {v_foundMany : Int32} {v_foundOrder : Int32} {v_isKept : Bool} {v_imageRows : Int32} {v_imageColumns : Int32} {v_imageFolded : Int32} {v_imageWronged : Int32} {v_bodies : Int32} {v_ran : Int32} {v_ownKind : Int32} {v_ownNumber : Int32} {v_limit : List Int32} {v_changeWas : List Int32} {v_changeIs : List Int32} {v_shapeRows : List Int32} {v_shapeColumns : List Int32} {v_row : List Int32} {v_column : List Int32} {v_below : List Int32} {v_face : List Int32} {v_worn : List Int32} {v_lastBend : List Int32} {v_bends : List Int32} {v_high : List Int32} {v_to : List Int32} {v_pileSize : List Int32} {v_planLine : List Int32} {v_planWay : List Int32} {v_way1 : List Int32} {v_bestWay : List Int32} {v_order1 : List Int32} {v_placeIn : List Int32} {v_bodyKind : List Int32} {v_trace : List Int32} {v_shelf : List Int32} {v_many : List Int32} {v_items : List Int64} {v_carried : List Int64} {r : Int32} {w_base : Int32} {w_at : Int32} {w_ends : Int32} {w_fault : Int32} {w_opened : Int32} (N : Nat)  : ∀ (n : Nat), ∀ (x3 : Int32) (x4 : Int32) (x5 : Int32) (v_base : Int32) (v_at : Int32) (v_ends : Int32) (v_fault : Int32) (v_opened : Int32) (v_tape : List Int32) (v_text : List Int32) (v_names : List Int32) (H : Heap) (locs : List Loc) (ls : Array Slot), fX9_workOut_33 N n x3 x4 x5 v_base v_at v_ends v_fault v_opened v_tape v_text v_names = some (r, w_base, w_at, w_ends, w_fault, w_opened) → va_P D mm_cl (wd_X9 cI cL cS cH a v_keptMany v_done v_rowsOf v_columnsOf v_folded v_wronged v_tapeMany v_textMany v_base v_at v_ends v_fault v_opened v_bentMany v_bentWrong v_moreWorn v_planned v_allWrong v_allWorn v_z v_wishedField v_isFound v_bestWrong v_bestWorn v_bestMany v_soughtBy v_sought v_soughtAt v_foundMany v_foundOrder v_isKept v_imageRows v_imageColumns v_imageFolded v_imageWronged v_bodies v_ran v_ownKind v_ownNumber v_limit v_changeWas v_changeIs v_shapeRows v_shapeColumns v_row v_column v_below v_face v_worn v_lastBend v_tape v_text v_names v_bends v_high v_to v_pileSize v_planLine v_planWay v_way1 v_bestWay v_order1 v_placeIn v_bodyKind v_trace v_shelf v_many v_items v_carried) H → va_D A (wd_X9 cI cL cS cH a v_keptMany v_done v_rowsOf v_columnsOf v_folded v_wronged v_tapeMany v_textMany v_base v_at v_ends v_fault v_opened v_bentMany v_bentWrong v_moreWorn v_planned v_allWrong v_allWorn v_z v_wishedField v_isFound v_bestWrong v_bestWorn v_bestMany v_soughtBy v_sought v_soughtAt v_foundMany v_foundOrder v_isKept v_imageRows v_imageColumns v_imageFolded v_imageWronged v_bodies v_ran v_ownKind v_ownNumber v_limit v_changeWas v_changeIs v_shapeRows v_shapeColumns v_row v_column v_below v_face v_worn v_lastBend v_tape v_text v_names v_bends v_high v_to v_pileSize v_planLine v_planWay v_way1 v_bestWay v_order1 v_placeIn v_bodyKind v_trace v_shelf v_many v_items v_carried) → va_S A s.heap H locs → lv_has ls 8 [(0, .ref (a 0)), (3, .int x3), (4, .int x4), (5, .int x5)] → W p l e (mm_rr d) s m args below meth c H locs 0 0 (mm_Z below D A (wd_X9 cI cL cS cH a v_keptMany v_done v_rowsOf v_columnsOf v_folded v_wronged v_tapeMany v_textMany w_base w_at w_ends w_fault w_opened v_bentMany v_bentWrong v_moreWorn v_planned v_allWrong v_allWorn v_z v_wishedField v_isFound v_bestWrong v_bestWorn v_bestMany v_soughtBy v_sought v_soughtAt v_foundMany v_foundOrder v_isKept v_imageRows v_imageColumns v_imageFolded v_imageWronged v_bodies v_ran v_ownKind v_ownNumber v_limit v_changeWas v_changeIs v_shapeRows v_shapeColumns v_row v_column v_below v_face v_worn v_lastBend v_tape v_text v_names v_bends v_high v_to v_pileSize v_planLine v_planWay v_way1 v_bestWay v_order1 v_placeIn v_bodyKind v_trace v_shelf v_many v_items v_carried) (some (.int r)) args s) (F0 m 33 ls []) := by
  obtain ⟨hx, hb, hml, hown, hts, hr, hlocks, hK, hSt⟩ := id C0
  intro n
  induction n with
  | zero =>
    intro x3 x4 x5 v_base v_at v_ends v_fault v_opened v_tape v_text v_names H locs ls hf
    cases (show none = some _ from hf)
  | succ n ih =>
    intro x3 x4 x5 v_base v_at v_ends v_fault v_opened v_tape v_text v_names H locs ls hf hP hD hS hl
    unfold fX9_workOut_33 at hf
    refine lv_iload hx hb dX9_workOut_33 (lv_at hl 3 rfl) ?_
    refine lv_if_eq (tgt := 107) hx hb dX9_workOut_35 (by decide) (fun c_1 => ?_) (fun c_1 => ?_)
    · have hf := mm_ip hf c_1
      refine lv_aload_n hx hb dX9_workOut_107 rfl (lv_at hl 0 rfl) ?_
      refine mm_get C0 hP iw_X9 0 rfl rfl 24 (by decide) fl_X9_159 rfl dX9_workOut_108 ?_
      refine lv_if_ge (tgt := 130) hx hb dX9_workOut_111 (by decide) (fun c_2 => ?_) (fun c_2 => ?_)
      · have hf := mm_ip hf c_2
        refine lv_iload hx hb dX9_workOut_130 (lv_at hl 2 rfl) ?_
        apply mm_sub6 hf
        exact mm_iret C0 hP hD hS dX9_workOut_132
      · have hf := mm_in hf c_2
        refine lv_aload_n hx hb dX9_workOut_114 rfl (lv_at hl 0 rfl) ?_
        refine mm_get C0 hP iw_X9 0 rfl rfl 22 (by decide) fl_X9_150 rfl dX9_workOut_115 ?_
        refine lv_aload_n hx hb dX9_workOut_118 rfl (lv_at hl 0 rfl) ?_
        refine mm_get C0 hP iw_X9 0 rfl rfl 23 (by decide) fl_X9_153 rfl dX9_workOut_119 ?_
        refine lv_icmp_ge (tgt := 130) hx hb dX9_workOut_122 (by decide) (fun c_3 => ?_) (fun c_3 => ?_)
        · have hf := mm_ip hf c_3
          refine lv_iload hx hb dX9_workOut_130 (lv_at hl 2 rfl) ?_
          apply mm_sub6 hf
          exact mm_iret C0 hP hD hS dX9_workOut_132
        · have hf := mm_in hf c_3
          refine lv_aload_n hx hb dX9_workOut_125 rfl (lv_at hl 0 rfl) ?_
          obtain ⟨r_4, w_5, hc_6, hf⟩ := mm_bd2s hf
          refine mm_callVF (q0 := 0) (ci := 9) (rest := []) C0 lk_X9_187 (ctX9_wrong (a := a) (d := d - 1) (by omega) hc_6) (by omega) rfl hl.1 rfl (mm_cat rfl) dX9_workOut_126 hP hD hA hS rfl rfl (fun H locs hP hD hS => ?_)
          refine W.eq (g2 := F0 m 129 ls [.int r_4]) rfl ?_
          apply mm_sub6 hf
          exact mm_iret C0 hP hD hS dX9_workOut_129
    · have hf := mm_in hf c_1
      refine lv_aload_n hx hb dX9_workOut_38 rfl (lv_at hl 0 rfl) ?_
      obtain ⟨r_7, w_8, w_9, w_10, hc_11, hf⟩ := mm_bd4s hf
      refine mm_callVF (q0 := 0) (ci := 9) (rest := []) C0 lk_X9_190 (ctX9_either (a := a) (d := d - 1) (dgo := 50) (ctX9_one (N := N) 8 50 (by decide)) (by decide) (by omega) hc_11) (by omega) rfl hl.1 rfl (mm_cat rfl) dX9_workOut_39 hP hD hA hS rfl rfl (fun H locs hP hD hS => ?_)
      refine W.eq (g2 := F0 m 42 ls [.int r_7]) rfl ?_
      refine lv_istore (lv' := [(6, .int r_7), (0, .ref (a 0)), (3, .int x3), (4, .int x4), (5, .int x5)]) hx hb dX9_workOut_42 hl (by decide) rfl (fun ls hl => ?_)
      refine lv_iconst (v := 1) hx hb dX9_workOut_44 (by decide) ?_
      refine lv_istore (lv' := [(7, .int (1 : Int32)), (6, .int r_7), (0, .ref (a 0)), (3, .int x3), (4, .int x4), (5, .int x5)]) hx hb dX9_workOut_45 hl (by decide) rfl (fun ls hl => ?_)
      refine lv_aload_n hx hb dX9_workOut_47 rfl (lv_at hl 2 rfl) ?_
      refine lv_bipush (v := 63) hx hb dX9_workOut_48 (by decide) ?_
      obtain ⟨r_12, w_13, hc_14, hf⟩ := mm_bd2s hf
      refine mm_callVF (q0 := 0) (ci := 9) (rest := []) C0 lk_X9_168 (ctX9_takes (a := a) (d := d - 1) (by omega) hc_14) (by omega) rfl hl.1 rfl (mm_cat rfl) dX9_workOut_50 hP hD hA hS rfl rfl (fun H locs hP hD hS => ?_)
      refine W.eq (g2 := F0 m 53 ls [.int (mm_b r_12)]) rfl ?_
      refine lv_if_eq (tgt := 74) hx hb dX9_workOut_53 (by decide) (fun c_15 => ?_) (fun c_15 => ?_)
      · have hf := mm_ip hf (mm_b0 c_15)
        exact tX9_workOut_74 hd C0 hA N ih _ _ _ _ _ _ _ _ _ _ _ _ H locs ls hf hP hD hS (lv_sub hl [2, 3, 4, 1, 0] rfl)
      · have hf := mm_in hf (mm_b1 c_15)
        refine lv_iload hx hb dX9_workOut_56 (lv_at hl 1 rfl) ?_
        refine lv_if_eq (tgt := 65) hx hb dX9_workOut_58 (by decide) (fun c_16 => ?_) (fun c_16 => ?_)
        · have hf := mm_ip hf c_16
          refine lv_iconst (v := 0) hx hb dX9_workOut_65 (by decide) ?_
          exact tX9_workOut_66 hd C0 hA N ih _ _ _ _ _ _ _ _ _ _ _ H locs ls hf hP hD hS (lv_sub hl [2, 3, 4] rfl)
        · have hf := mm_in hf c_16
          refine lv_iconst (v := 1) hx hb dX9_workOut_61 (by decide) ?_
          refine lv_goto (tgt := 66) hx hb dX9_workOut_62 (by decide) ?_
          exact tX9_workOut_66 hd C0 hA N ih _ _ _ _ _ _ _ _ _ _ _ H locs ls hf hP hD hS (lv_sub hl [2, 3, 4] rfl)

def fX9_workOut (N : Nat) (x1 : Int32) (x2 : Int32) (v_base : Int32) (v_at : Int32) (v_ends : Int32) (v_fault : Int32) (v_opened : Int32) (v_tape : List Int32) (v_text : List Int32) (v_names : List Int32) : Option (Int32 × Int32 × Int32 × Int32 × Int32 × Int32) :=
    fX9_workOut_33 N N (0 : Int32) (0 : Int32) (1 : Int32) x1 (0 : Int32) x2 (-1 : Int32) (0 : Int32) v_tape v_text v_names

set_option maxHeartbeats 4000000 in
set_option maxRecDepth 100000 in
theorem ctX9_workOut {l : Launch} {D : va_G} {cI cL cS cH : ClassId} {a : Nat → Nat} {x1 : Int32} {x2 : Int32} {v_keptMany : Int32} {v_done : Int32} {v_rowsOf : Int32} {v_columnsOf : Int32} {v_folded : Int32} {v_wronged : Int32} {v_tapeMany : Int32} {v_textMany : Int32} {v_base : Int32} {v_at : Int32} {v_ends : Int32} {v_fault : Int32} {v_opened : Int32} {v_bentMany : Int32} {v_bentWrong : Int32} {v_moreWorn : Int32} {v_planned : Int32} {v_allWrong : Int32} {v_allWorn : Int32} {v_z : Int32} {v_wishedField : Int32} {v_isFound : Bool} {v_bestWrong : Int32} {v_bestWorn : Int32} {v_bestMany : Int32} {v_soughtBy : Int32} {v_sought : Int32} {v_soughtAt : Int32} {v_foundMany : Int32} {v_foundOrder : Int32} {v_isKept : Bool} {v_imageRows : Int32} {v_imageColumns : Int32} {v_imageFolded : Int32} {v_imageWronged : Int32} {v_bodies : Int32} {v_ran : Int32} {v_ownKind : Int32} {v_ownNumber : Int32} {v_limit : List Int32} {v_changeWas : List Int32} {v_changeIs : List Int32} {v_shapeRows : List Int32} {v_shapeColumns : List Int32} {v_row : List Int32} {v_column : List Int32} {v_below : List Int32} {v_face : List Int32} {v_worn : List Int32} {v_lastBend : List Int32} {v_tape : List Int32} {v_text : List Int32} {v_names : List Int32} {v_bends : List Int32} {v_high : List Int32} {v_to : List Int32} {v_pileSize : List Int32} {v_planLine : List Int32} {v_planWay : List Int32} {v_way1 : List Int32} {v_bestWay : List Int32} {v_order1 : List Int32} {v_placeIn : List Int32} {v_bodyKind : List Int32} {v_trace : List Int32} {v_shelf : List Int32} {v_many : List Int32} {v_items : List Int64} {v_carried : List Int64} {r : Int32} {w_base : Int32} {w_at : Int32} {w_ends : Int32} {w_fault : Int32} {w_opened : Int32} {N d : Nat} (hd : 56 ≤ d) (hf : fX9_workOut N x1 x2 v_base v_at v_ends v_fault v_opened v_tape v_text v_names = some (r, w_base, w_at, w_ends, w_fault, w_opened)) : mm_Ct l yX9_workOut cX9_workOut 8 (some .int) d D (mm_T cI cL cS cH) [.ref (a 0), .int x1, .int x2] (wd_X9 cI cL cS cH a v_keptMany v_done v_rowsOf v_columnsOf v_folded v_wronged v_tapeMany v_textMany v_base v_at v_ends v_fault v_opened v_bentMany v_bentWrong v_moreWorn v_planned v_allWrong v_allWorn v_z v_wishedField v_isFound v_bestWrong v_bestWorn v_bestMany v_soughtBy v_sought v_soughtAt v_foundMany v_foundOrder v_isKept v_imageRows v_imageColumns v_imageFolded v_imageWronged v_bodies v_ran v_ownKind v_ownNumber v_limit v_changeWas v_changeIs v_shapeRows v_shapeColumns v_row v_column v_below v_face v_worn v_lastBend v_tape v_text v_names v_bends v_high v_to v_pileSize v_planLine v_planWay v_way1 v_bestWay v_order1 v_placeIn v_bodyKind v_trace v_shelf v_many v_items v_carried) (wd_X9 cI cL cS cH a v_keptMany v_done v_rowsOf v_columnsOf v_folded v_wronged v_tapeMany v_textMany w_base w_at w_ends w_fault w_opened v_bentMany v_bentWrong v_moreWorn v_planned v_allWrong v_allWorn v_z v_wishedField v_isFound v_bestWrong v_bestWorn v_bestMany v_soughtBy v_sought v_soughtAt v_foundMany v_foundOrder v_isKept v_imageRows v_imageColumns v_imageFolded v_imageWronged v_bodies v_ran v_ownKind v_ownNumber v_limit v_changeWas v_changeIs v_shapeRows v_shapeColumns v_row v_column v_below v_face v_worn v_lastBend v_tape v_text v_names v_bends v_high v_to v_pileSize v_planLine v_planWay v_way1 v_bestWay v_order1 v_placeIn v_bodyKind v_trace v_shelf v_many v_items v_carried) (some (.int r)) := by
  refine mm_of (by decide) (Nat.le_of_ble_eq_true rfl) ?_
  intro p e s m args below meth c A H locs ls C0 hP hD hA hS hl
  have C0 : mm_Cx p s m args meth c RX9 cX9_workOut 8 (some .int) D (mm_T cI cL cS cH) A := C0
  obtain ⟨hx, hb, hml, hown, hts, hr, hlocks, hK, hSt⟩ := id C0
  have hl : lv_has ls 8 [(0, .ref (a 0)), (1, .int x1), (2, .int x2)] := hl
  unfold fX9_workOut at hf
  refine lv_aload_n hx hb dX9_workOut_0 rfl (lv_at hl 0 rfl) ?_
  refine lv_iload_n hx hb dX9_workOut_1 rfl (lv_at hl 1 rfl) ?_
  refine mm_put C0 hP hD hS iw_X9 tyX9 tyX9_ok nmX9 0 rfl rfl 21 (by decide) fl_X9_156 rfl rfl rfl (Nat.le_of_ble_eq_true rfl) dX9_workOut_2 (w2 := (wd_X9 cI cL cS cH a v_keptMany v_done v_rowsOf v_columnsOf v_folded v_wronged v_tapeMany v_textMany x1 v_at v_ends v_fault v_opened v_bentMany v_bentWrong v_moreWorn v_planned v_allWrong v_allWorn v_z v_wishedField v_isFound v_bestWrong v_bestWorn v_bestMany v_soughtBy v_sought v_soughtAt v_foundMany v_foundOrder v_isKept v_imageRows v_imageColumns v_imageFolded v_imageWronged v_bodies v_ran v_ownKind v_ownNumber v_limit v_changeWas v_changeIs v_shapeRows v_shapeColumns v_row v_column v_below v_face v_worn v_lastBend v_tape v_text v_names v_bends v_high v_to v_pileSize v_planLine v_planWay v_way1 v_bestWay v_order1 v_placeIn v_bodyKind v_trace v_shelf v_many v_items v_carried)) rfl (fun H locs hP hD hS => ?_)
  refine lv_aload_n hx hb dX9_workOut_5 rfl (lv_at hl 0 rfl) ?_
  refine lv_iconst (v := 0) hx hb dX9_workOut_6 (by decide) ?_
  refine mm_put C0 hP hD hS iw_X9 tyX9 tyX9_ok nmX9 0 rfl rfl 22 (by decide) fl_X9_150 rfl rfl rfl (Nat.le_of_ble_eq_true rfl) dX9_workOut_7 (w2 := (wd_X9 cI cL cS cH a v_keptMany v_done v_rowsOf v_columnsOf v_folded v_wronged v_tapeMany v_textMany x1 (0 : Int32) v_ends v_fault v_opened v_bentMany v_bentWrong v_moreWorn v_planned v_allWrong v_allWorn v_z v_wishedField v_isFound v_bestWrong v_bestWorn v_bestMany v_soughtBy v_sought v_soughtAt v_foundMany v_foundOrder v_isKept v_imageRows v_imageColumns v_imageFolded v_imageWronged v_bodies v_ran v_ownKind v_ownNumber v_limit v_changeWas v_changeIs v_shapeRows v_shapeColumns v_row v_column v_below v_face v_worn v_lastBend v_tape v_text v_names v_bends v_high v_to v_pileSize v_planLine v_planWay v_way1 v_bestWay v_order1 v_placeIn v_bodyKind v_trace v_shelf v_many v_items v_carried)) rfl (fun H locs hP hD hS => ?_)
  refine lv_aload_n hx hb dX9_workOut_10 rfl (lv_at hl 0 rfl) ?_
  refine lv_iload_n hx hb dX9_workOut_11 rfl (lv_at hl 2 rfl) ?_
  refine mm_put C0 hP hD hS iw_X9 tyX9 tyX9_ok nmX9 0 rfl rfl 23 (by decide) fl_X9_153 rfl rfl rfl (Nat.le_of_ble_eq_true rfl) dX9_workOut_12 (w2 := (wd_X9 cI cL cS cH a v_keptMany v_done v_rowsOf v_columnsOf v_folded v_wronged v_tapeMany v_textMany x1 (0 : Int32) x2 v_fault v_opened v_bentMany v_bentWrong v_moreWorn v_planned v_allWrong v_allWorn v_z v_wishedField v_isFound v_bestWrong v_bestWorn v_bestMany v_soughtBy v_sought v_soughtAt v_foundMany v_foundOrder v_isKept v_imageRows v_imageColumns v_imageFolded v_imageWronged v_bodies v_ran v_ownKind v_ownNumber v_limit v_changeWas v_changeIs v_shapeRows v_shapeColumns v_row v_column v_below v_face v_worn v_lastBend v_tape v_text v_names v_bends v_high v_to v_pileSize v_planLine v_planWay v_way1 v_bestWay v_order1 v_placeIn v_bodyKind v_trace v_shelf v_many v_items v_carried)) rfl (fun H locs hP hD hS => ?_)
  refine lv_aload_n hx hb dX9_workOut_15 rfl (lv_at hl 0 rfl) ?_
  refine lv_iconst (v := -1) hx hb dX9_workOut_16 (by decide) ?_
  refine mm_put C0 hP hD hS iw_X9 tyX9 tyX9_ok nmX9 0 rfl rfl 24 (by decide) fl_X9_159 rfl rfl rfl (Nat.le_of_ble_eq_true rfl) dX9_workOut_17 (w2 := (wd_X9 cI cL cS cH a v_keptMany v_done v_rowsOf v_columnsOf v_folded v_wronged v_tapeMany v_textMany x1 (0 : Int32) x2 (-1 : Int32) v_opened v_bentMany v_bentWrong v_moreWorn v_planned v_allWrong v_allWorn v_z v_wishedField v_isFound v_bestWrong v_bestWorn v_bestMany v_soughtBy v_sought v_soughtAt v_foundMany v_foundOrder v_isKept v_imageRows v_imageColumns v_imageFolded v_imageWronged v_bodies v_ran v_ownKind v_ownNumber v_limit v_changeWas v_changeIs v_shapeRows v_shapeColumns v_row v_column v_below v_face v_worn v_lastBend v_tape v_text v_names v_bends v_high v_to v_pileSize v_planLine v_planWay v_way1 v_bestWay v_order1 v_placeIn v_bodyKind v_trace v_shelf v_many v_items v_carried)) rfl (fun H locs hP hD hS => ?_)
  refine lv_aload_n hx hb dX9_workOut_20 rfl (lv_at hl 0 rfl) ?_
  refine lv_iconst (v := 0) hx hb dX9_workOut_21 (by decide) ?_
  refine mm_put C0 hP hD hS iw_X9 tyX9 tyX9_ok nmX9 0 rfl rfl 25 (by decide) fl_X9_184 rfl rfl rfl (Nat.le_of_ble_eq_true rfl) dX9_workOut_22 (w2 := (wd_X9 cI cL cS cH a v_keptMany v_done v_rowsOf v_columnsOf v_folded v_wronged v_tapeMany v_textMany x1 (0 : Int32) x2 (-1 : Int32) (0 : Int32) v_bentMany v_bentWrong v_moreWorn v_planned v_allWrong v_allWorn v_z v_wishedField v_isFound v_bestWrong v_bestWorn v_bestMany v_soughtBy v_sought v_soughtAt v_foundMany v_foundOrder v_isKept v_imageRows v_imageColumns v_imageFolded v_imageWronged v_bodies v_ran v_ownKind v_ownNumber v_limit v_changeWas v_changeIs v_shapeRows v_shapeColumns v_row v_column v_below v_face v_worn v_lastBend v_tape v_text v_names v_bends v_high v_to v_pileSize v_planLine v_planWay v_way1 v_bestWay v_order1 v_placeIn v_bodyKind v_trace v_shelf v_many v_items v_carried)) rfl (fun H locs hP hD hS => ?_)
  refine lv_iconst (v := 0) hx hb dX9_workOut_25 (by decide) ?_
  refine lv_istore_n (lv' := [(3, .int (0 : Int32)), (0, .ref (a 0)), (1, .int x1), (2, .int x2)]) hx hb dX9_workOut_26 rfl hl (by decide) rfl (fun ls hl => ?_)
  refine lv_iconst (v := 0) hx hb dX9_workOut_27 (by decide) ?_
  refine lv_istore (lv' := [(4, .int (0 : Int32)), (3, .int (0 : Int32)), (0, .ref (a 0)), (1, .int x1), (2, .int x2)]) hx hb dX9_workOut_28 hl (by decide) rfl (fun ls hl => ?_)
  refine lv_iconst (v := 1) hx hb dX9_workOut_30 (by decide) ?_
  refine lv_istore (lv' := [(5, .int (1 : Int32)), (4, .int (0 : Int32)), (3, .int (0 : Int32)), (0, .ref (a 0)), (1, .int x1), (2, .int x2)]) hx hb dX9_workOut_31 hl (by decide) rfl (fun ls hl => ?_)
  exact tX9_workOut_33 hd C0 hA N  N _ _ _ _ _ _ _ _ _ _ _ H locs ls hf hP hD hS (lv_sub hl [3, 2, 1, 0] rfl)

theorem nb_dX9_law_0 : bls_w cX9_law [(0, [42]), (1, [2]), (2, [42]), (3, [180, 0, 147]), (6, [182, 0, 197]), (9, [60]), (10, [42]), (11, [180, 0, 147]), (14, [61]), (15, [42]), (16, [3]), (17, [181, 0, 147])] := bls_of (by decide +kernel)
theorem dX9_law_0 : decode cX9_law 0 = .ok (.aload_n 0, 1) := op_42 nb_dX9_law_0.1
theorem dX9_law_1 : decode cX9_law 1 = .ok (.iconst (-1), 1) := op_2 nb_dX9_law_0.2.1
theorem dX9_law_2 : decode cX9_law 2 = .ok (.aload_n 0, 1) := op_42 nb_dX9_law_0.2.2.1
set_option maxRecDepth 100000 in
theorem dX9_law_3 : decode cX9_law 3 = .ok (.getfield 147, 3) := (op_180 nb_dX9_law_0.2.2.2.1).trans rfl
set_option maxRecDepth 100000 in
theorem dX9_law_6 : decode cX9_law 6 = .ok (.invokevirtual 197, 3) := (op_182 nb_dX9_law_0.2.2.2.2.1).trans rfl
theorem dX9_law_9 : decode cX9_law 9 = .ok (.istore_n 1, 1) := op_60 nb_dX9_law_0.2.2.2.2.2.1
theorem dX9_law_10 : decode cX9_law 10 = .ok (.aload_n 0, 1) := op_42 nb_dX9_law_0.2.2.2.2.2.2.1
set_option maxRecDepth 100000 in
theorem dX9_law_11 : decode cX9_law 11 = .ok (.getfield 147, 3) := (op_180 nb_dX9_law_0.2.2.2.2.2.2.2.1).trans rfl
theorem dX9_law_14 : decode cX9_law 14 = .ok (.istore_n 2, 1) := op_61 nb_dX9_law_0.2.2.2.2.2.2.2.2.1
theorem dX9_law_15 : decode cX9_law 15 = .ok (.aload_n 0, 1) := op_42 nb_dX9_law_0.2.2.2.2.2.2.2.2.2.1
theorem dX9_law_16 : decode cX9_law 16 = .ok (.iconst 0, 1) := op_3 nb_dX9_law_0.2.2.2.2.2.2.2.2.2.2.1
set_option maxRecDepth 100000 in
theorem dX9_law_17 : decode cX9_law 17 = .ok (.putfield 147, 3) := (op_181 nb_dX9_law_0.2.2.2.2.2.2.2.2.2.2.2.1).trans rfl
theorem nb_dX9_law_20 : bls_w cX9_law [(20, [42]), (21, [180, 0, 159]), (24, [155, 0, 11]), (27, [16, 156]), (29, [42]), (30, [180, 0, 159]), (33, [100]), (34, [172]), (35, [3]), (36, [62]), (37, [29]), (38, [28])] := bls_of (by decide +kernel)
theorem dX9_law_20 : decode cX9_law 20 = .ok (.aload_n 0, 1) := op_42 nb_dX9_law_20.1
set_option maxRecDepth 100000 in
theorem dX9_law_21 : decode cX9_law 21 = .ok (.getfield 159, 3) := (op_180 nb_dX9_law_20.2.1).trans rfl
set_option maxRecDepth 100000 in
theorem dX9_law_24 : decode cX9_law 24 = .ok (.ifCond .lt 11, 3) := (op_155 nb_dX9_law_20.2.2.1).trans rfl
set_option maxRecDepth 100000 in
theorem dX9_law_27 : decode cX9_law 27 = .ok (.bipush (-100), 2) := (op_16 nb_dX9_law_20.2.2.2.1).trans rfl
theorem dX9_law_29 : decode cX9_law 29 = .ok (.aload_n 0, 1) := op_42 nb_dX9_law_20.2.2.2.2.1
set_option maxRecDepth 100000 in
theorem dX9_law_30 : decode cX9_law 30 = .ok (.getfield 159, 3) := (op_180 nb_dX9_law_20.2.2.2.2.2.1).trans rfl
theorem dX9_law_33 : decode cX9_law 33 = .ok (.isub, 1) := op_100 nb_dX9_law_20.2.2.2.2.2.2.1
theorem dX9_law_34 : decode cX9_law 34 = .ok (.ireturn, 1) := op_172 nb_dX9_law_20.2.2.2.2.2.2.2.1
theorem dX9_law_35 : decode cX9_law 35 = .ok (.iconst 0, 1) := op_3 nb_dX9_law_20.2.2.2.2.2.2.2.2.1
theorem dX9_law_36 : decode cX9_law 36 = .ok (.istore_n 3, 1) := op_62 nb_dX9_law_20.2.2.2.2.2.2.2.2.2.1
theorem dX9_law_37 : decode cX9_law 37 = .ok (.iload_n 3, 1) := op_29 nb_dX9_law_20.2.2.2.2.2.2.2.2.2.2.1
theorem dX9_law_38 : decode cX9_law 38 = .ok (.iload_n 2, 1) := op_28 nb_dX9_law_20.2.2.2.2.2.2.2.2.2.2.2.1
theorem nb_dX9_law_39 : bls_w cX9_law [(39, [162, 0, 21]), (42, [42]), (43, [180, 0, 46]), (46, [29]), (47, [42]), (48, [180, 0, 43]), (51, [29]), (52, [46]), (53, [79]), (54, [132, 3, 1]), (57, [167, 255, 236]), (60, [42])] := bls_of (by decide +kernel)
set_option maxRecDepth 100000 in
theorem dX9_law_39 : decode cX9_law 39 = .ok (.if_icmp .ge 21, 3) := (op_162 nb_dX9_law_39.1).trans rfl
theorem dX9_law_42 : decode cX9_law 42 = .ok (.aload_n 0, 1) := op_42 nb_dX9_law_39.2.1
set_option maxRecDepth 100000 in
theorem dX9_law_43 : decode cX9_law 43 = .ok (.getfield 46, 3) := (op_180 nb_dX9_law_39.2.2.1).trans rfl
theorem dX9_law_46 : decode cX9_law 46 = .ok (.iload_n 3, 1) := op_29 nb_dX9_law_39.2.2.2.1
theorem dX9_law_47 : decode cX9_law 47 = .ok (.aload_n 0, 1) := op_42 nb_dX9_law_39.2.2.2.2.1
set_option maxRecDepth 100000 in
theorem dX9_law_48 : decode cX9_law 48 = .ok (.getfield 43, 3) := (op_180 nb_dX9_law_39.2.2.2.2.2.1).trans rfl
theorem dX9_law_51 : decode cX9_law 51 = .ok (.iload_n 3, 1) := op_29 nb_dX9_law_39.2.2.2.2.2.2.1
theorem dX9_law_52 : decode cX9_law 52 = .ok (.iaload, 1) := op_46 nb_dX9_law_39.2.2.2.2.2.2.2.1
theorem dX9_law_53 : decode cX9_law 53 = .ok (.iastore, 1) := op_79 nb_dX9_law_39.2.2.2.2.2.2.2.2.1
set_option maxRecDepth 100000 in
theorem dX9_law_54 : decode cX9_law 54 = .ok (.iinc 3 1, 3) := (op_132 nb_dX9_law_39.2.2.2.2.2.2.2.2.2.1).trans rfl
set_option maxRecDepth 100000 in
theorem dX9_law_57 : decode cX9_law 57 = .ok (.goto (-20), 3) := (op_167 nb_dX9_law_39.2.2.2.2.2.2.2.2.2.2.1).trans rfl
theorem dX9_law_60 : decode cX9_law 60 = .ok (.aload_n 0, 1) := op_42 nb_dX9_law_39.2.2.2.2.2.2.2.2.2.2.2.1
theorem nb_dX9_law_61 : bls_w cX9_law [(61, [28]), (62, [181, 0, 101]), (65, [4]), (66, [172])] := bls_of (by decide +kernel)
theorem dX9_law_61 : decode cX9_law 61 = .ok (.iload_n 2, 1) := op_28 nb_dX9_law_61.1
set_option maxRecDepth 100000 in
theorem dX9_law_62 : decode cX9_law 62 = .ok (.putfield 101, 3) := (op_181 nb_dX9_law_61.2.1).trans rfl
theorem dX9_law_65 : decode cX9_law 65 = .ok (.iconst 1, 1) := op_4 nb_dX9_law_61.2.2.1
theorem dX9_law_66 : decode cX9_law 66 = .ok (.ireturn, 1) := op_172 nb_dX9_law_61.2.2.2.1
def fX9_law_37 (N : Nat)  : Nat → Int32 → Int32 → Int32 → Int32 → Int32 → Int32 → Int32 → Int32 → Int32 → List Int32 → List Int32 → List Int32 → Option (Int32 × Int32 × Int32 × Int32 × Int32 × Int32 × Int32 × Int32 × List Int32)
  | 0 => fun _ _ _ _ _ _ _ _ _ _ _ _ => none
  | n + 1 => fun x2 x3 v_tapeMany v_textMany v_base v_at v_ends v_fault v_opened v_tape v_text v_names =>
    if x2 ≤ x3 then
    (some ((1 : Int32), v_tapeMany, x2, v_base, v_at, v_ends, v_fault, v_opened, v_text))
    else (mm_ck (mm_inb x3 v_tape.length) (mm_nm ((mm_ig v_tape x3)) (fun (y_11 : Int32) =>
    mm_ck (mm_inb x3 v_text.length) (mm_nm (mm_is v_text x3 y_11) (fun (l_13 : List Int32) =>
    mm_nm (x3 + (1 : Int32)) (fun (y_14 : Int32) =>
    fX9_law_37 N n x2 y_14 v_tapeMany v_textMany v_base v_at v_ends v_fault v_opened v_tape l_13 v_names))))))

set_option maxHeartbeats 4000000 in
set_option maxRecDepth 100000 in
theorem tX9_law_37 {p : Program} {l : Launch} {e : Env} {s : State} {m : MethodId} {args : Array Value} {below : List Frame} {meth : Method} {c : Code} {D : va_G} {cI cL cS cH : ClassId} {A : Nat → Prop} {d : Nat} {a : Nat → Nat} (hd : 57 ≤ d) (C0 : mm_Cx p s m args meth c RX9 cX9_law 4 (some .int) D (mm_T cI cL cS cH) A) (hA : ∀ q, s.heap.size ≤ q → A q) {v_keptMany : Int32} {v_done : Int32} {v_rowsOf : Int32} {v_columnsOf : Int32} {v_folded : Int32} {v_wronged : Int32} {v_bentMany : Int32} {v_bentWrong : Int32} {v_moreWorn : Int32} {v_planned : Int32} {v_allWrong : Int32} {v_allWorn : Int32} {v_z : Int32} {v_wishedField : Int32} {v_isFound : Bool} {v_bestWrong : Int32} {v_bestWorn : Int32} {v_bestMany : Int32} {v_soughtBy : Int32} {v_sought : Int32} {v_soughtAt : Int32} {v_foundMany : Int32} {v_foundOrder : Int32} {v_isKept : Bool} {v_imageRows : Int32} {v_imageColumns : Int32} {v_imageFolded : Int32} {v_imageWronged : Int32} {v_bodies : Int32} {v_ran : Int32} {v_ownKind : Int32} {v_ownNumber : Int32} {v_limit : List Int32} {v_changeWas : List Int32} {v_changeIs : List Int32} {v_shapeRows : List Int32} {v_shapeColumns : List Int32} {v_row : List Int32} {v_column : List Int32} {v_below : List Int32} {v_face : List Int32} {v_worn : List Int32} {v_lastBend : List Int32} {v_bends : List Int32} {v_high : List Int32} {v_to : List Int32} {v_pileSize : List Int32} {v_planLine : List Int32} {v_planWay : List Int32} {v_way1 : List Int32} {v_bestWay : List Int32} {v_order1 : List Int32} {v_placeIn : List Int32} {v_bodyKind : List Int32} {v_trace : List Int32} {v_shelf : List Int32} {v_many : List Int32} {v_items : List Int64} {v_carried : List Int64} {r : Int32} {w_tapeMany : Int32} {w_textMany : Int32} {w_base : Int32} {w_at : Int32} {w_ends : Int32} {w_fault : Int32} {w_opened : Int32} {w_text : List Int32} (N : Nat)  : ∀ (n : Nat), ∀ (x2 : Int32) (x3 : Int32) (v_tapeMany : Int32) (v_textMany : Int32) (v_base : Int32) (v_at : Int32) (v_ends : Int32) (v_fault : Int32) (v_opened : Int32) (v_tape : List Int32) (v_text : List Int32) (v_names : List Int32) (H : Heap) (locs : List Loc) (ls : Array Slot), fX9_law_37 N n x2 x3 v_tapeMany v_textMany v_base v_at v_ends v_fault v_opened v_tape v_text v_names = some (r, w_tapeMany, w_textMany, w_base, w_at, w_ends, w_fault, w_opened, w_text) → va_P D mm_cl (wd_X9 cI cL cS cH a v_keptMany v_done v_rowsOf v_columnsOf v_folded v_wronged v_tapeMany v_textMany v_base v_at v_ends v_fault v_opened v_bentMany v_bentWrong v_moreWorn v_planned v_allWrong v_allWorn v_z v_wishedField v_isFound v_bestWrong v_bestWorn v_bestMany v_soughtBy v_sought v_soughtAt v_foundMany v_foundOrder v_isKept v_imageRows v_imageColumns v_imageFolded v_imageWronged v_bodies v_ran v_ownKind v_ownNumber v_limit v_changeWas v_changeIs v_shapeRows v_shapeColumns v_row v_column v_below v_face v_worn v_lastBend v_tape v_text v_names v_bends v_high v_to v_pileSize v_planLine v_planWay v_way1 v_bestWay v_order1 v_placeIn v_bodyKind v_trace v_shelf v_many v_items v_carried) H → va_D A (wd_X9 cI cL cS cH a v_keptMany v_done v_rowsOf v_columnsOf v_folded v_wronged v_tapeMany v_textMany v_base v_at v_ends v_fault v_opened v_bentMany v_bentWrong v_moreWorn v_planned v_allWrong v_allWorn v_z v_wishedField v_isFound v_bestWrong v_bestWorn v_bestMany v_soughtBy v_sought v_soughtAt v_foundMany v_foundOrder v_isKept v_imageRows v_imageColumns v_imageFolded v_imageWronged v_bodies v_ran v_ownKind v_ownNumber v_limit v_changeWas v_changeIs v_shapeRows v_shapeColumns v_row v_column v_below v_face v_worn v_lastBend v_tape v_text v_names v_bends v_high v_to v_pileSize v_planLine v_planWay v_way1 v_bestWay v_order1 v_placeIn v_bodyKind v_trace v_shelf v_many v_items v_carried) → va_S A s.heap H locs → lv_has ls 4 [(0, .ref (a 0)), (2, .int x2), (3, .int x3)] → W p l e (mm_rr d) s m args below meth c H locs 0 0 (mm_Z below D A (wd_X9 cI cL cS cH a v_keptMany v_done v_rowsOf v_columnsOf v_folded v_wronged w_tapeMany w_textMany w_base w_at w_ends w_fault w_opened v_bentMany v_bentWrong v_moreWorn v_planned v_allWrong v_allWorn v_z v_wishedField v_isFound v_bestWrong v_bestWorn v_bestMany v_soughtBy v_sought v_soughtAt v_foundMany v_foundOrder v_isKept v_imageRows v_imageColumns v_imageFolded v_imageWronged v_bodies v_ran v_ownKind v_ownNumber v_limit v_changeWas v_changeIs v_shapeRows v_shapeColumns v_row v_column v_below v_face v_worn v_lastBend v_tape w_text v_names v_bends v_high v_to v_pileSize v_planLine v_planWay v_way1 v_bestWay v_order1 v_placeIn v_bodyKind v_trace v_shelf v_many v_items v_carried) (some (.int r)) args s) (F0 m 37 ls []) := by
  obtain ⟨hx, hb, hml, hown, hts, hr, hlocks, hK, hSt⟩ := id C0
  intro n
  induction n with
  | zero =>
    intro x2 x3 v_tapeMany v_textMany v_base v_at v_ends v_fault v_opened v_tape v_text v_names H locs ls hf
    cases (show none = some _ from hf)
  | succ n ih =>
    intro x2 x3 v_tapeMany v_textMany v_base v_at v_ends v_fault v_opened v_tape v_text v_names H locs ls hf hP hD hS hl
    unfold fX9_law_37 at hf
    refine lv_iload_n hx hb dX9_law_37 rfl (lv_at hl 2 rfl) ?_
    refine lv_iload_n hx hb dX9_law_38 rfl (lv_at hl 1 rfl) ?_
    refine lv_icmp_ge (tgt := 60) hx hb dX9_law_39 (by decide) (fun c_9 => ?_) (fun c_9 => ?_)
    · have hf := mm_ip hf c_9
      refine lv_aload_n hx hb dX9_law_60 rfl (lv_at hl 0 rfl) ?_
      refine lv_iload_n hx hb dX9_law_61 rfl (lv_at hl 1 rfl) ?_
      refine mm_put C0 hP hD hS iw_X9 tyX9 tyX9_ok nmX9 0 rfl rfl 20 (by decide) fl_X9_101 rfl rfl rfl (Nat.le_of_ble_eq_true rfl) dX9_law_62 (w2 := (wd_X9 cI cL cS cH a v_keptMany v_done v_rowsOf v_columnsOf v_folded v_wronged v_tapeMany x2 v_base v_at v_ends v_fault v_opened v_bentMany v_bentWrong v_moreWorn v_planned v_allWrong v_allWorn v_z v_wishedField v_isFound v_bestWrong v_bestWorn v_bestMany v_soughtBy v_sought v_soughtAt v_foundMany v_foundOrder v_isKept v_imageRows v_imageColumns v_imageFolded v_imageWronged v_bodies v_ran v_ownKind v_ownNumber v_limit v_changeWas v_changeIs v_shapeRows v_shapeColumns v_row v_column v_below v_face v_worn v_lastBend v_tape v_text v_names v_bends v_high v_to v_pileSize v_planLine v_planWay v_way1 v_bestWay v_order1 v_placeIn v_bodyKind v_trace v_shelf v_many v_items v_carried)) rfl (fun H locs hP hD hS => ?_)
      refine lv_iconst (v := 1) hx hb dX9_law_65 (by decide) ?_
      apply mm_sub9 hf
      exact mm_iret C0 hP hD hS dX9_law_66
    · have hf := mm_in hf c_9
      refine lv_aload_n hx hb dX9_law_42 rfl (lv_at hl 0 rfl) ?_
      refine mm_get C0 hP iw_X9 0 rfl rfl 19 (by decide) fl_X9_46 rfl dX9_law_43 ?_
      refine lv_iload_n hx hb dX9_law_46 rfl (lv_at hl 2 rfl) ?_
      refine lv_aload_n hx hb dX9_law_47 rfl (lv_at hl 0 rfl) ?_
      refine mm_get C0 hP iw_X9 0 rfl rfl 17 (by decide) fl_X9_43 rfl dX9_law_48 ?_
      refine lv_iload_n hx hb dX9_law_51 rfl (lv_at hl 2 rfl) ?_
      obtain ⟨h_10, hf⟩ := mm_cks hf
      refine mm_iald C0 hP 12 rfl h_10 dX9_law_52 ?_
      refine lv_topi (fun y_11 ey_11 => ?_)
      have hf := mm_nms hf ey_11
      obtain ⟨h_12, hf⟩ := mm_cks hf
      refine mm_iast C0 hP hD hS 13 rfl h_12 dX9_law_53 (w2 := (wd_X9 cI cL cS cH a v_keptMany v_done v_rowsOf v_columnsOf v_folded v_wronged v_tapeMany v_textMany v_base v_at v_ends v_fault v_opened v_bentMany v_bentWrong v_moreWorn v_planned v_allWrong v_allWorn v_z v_wishedField v_isFound v_bestWrong v_bestWorn v_bestMany v_soughtBy v_sought v_soughtAt v_foundMany v_foundOrder v_isKept v_imageRows v_imageColumns v_imageFolded v_imageWronged v_bodies v_ran v_ownKind v_ownNumber v_limit v_changeWas v_changeIs v_shapeRows v_shapeColumns v_row v_column v_below v_face v_worn v_lastBend v_tape (mm_is v_text x3 y_11) v_names v_bends v_high v_to v_pileSize v_planLine v_planWay v_way1 v_bestWay v_order1 v_placeIn v_bodyKind v_trace v_shelf v_many v_items v_carried)) rfl (fun H locs hP hD hS => ?_)
      generalize el_13 : (mm_is v_text x3 y_11) = l_13 at hP hD
      have hf := mm_nms hf el_13.symm
      obtain ⟨y_14, ey_14⟩ : ∃ z : Int32, z = x3 + (1 : Int32) := ⟨_, rfl⟩
      have hf := mm_nms hf ey_14
      refine lv_iinc (v := y_14) (lv' := [(3, .int y_14), (0, .ref (a 0)), (2, .int x2)]) hx hb dX9_law_54 hl (k := 2) rfl (by rw [ey_14]; rfl) (by decide) rfl (fun ls hl => ?_)
      refine lv_goto (tgt := 37) hx hb dX9_law_57 (by decide) ?_
      exact ih _ _ _ _ _ _ _ _ _ _ _ _ H locs ls hf hP hD hS (lv_sub hl [1, 2, 0] rfl)

def fX9_law (N : Nat) (v_tapeMany : Int32) (v_textMany : Int32) (v_base : Int32) (v_at : Int32) (v_ends : Int32) (v_fault : Int32) (v_opened : Int32) (v_tape : List Int32) (v_text : List Int32) (v_names : List Int32) : Option (Int32 × Int32 × Int32 × Int32 × Int32 × Int32 × Int32 × Int32 × List Int32) :=
    mm_bd6 (fX9_workOut N (-1 : Int32) v_tapeMany v_base v_at v_ends v_fault v_opened v_tape v_text v_names) (fun (r_1 : Int32) (w_2 : Int32) (w_3 : Int32) (w_4 : Int32) (w_5 : Int32) (w_6 : Int32) =>
    if w_5 < 0 then
    (fX9_law_37 N N v_tapeMany (0 : Int32) (0 : Int32) v_textMany w_2 w_3 w_4 w_5 w_6 v_tape v_text v_names)
    else (some (((-100 : Int32) - w_5), (0 : Int32), v_textMany, w_2, w_3, w_4, w_5, w_6, v_text)))

set_option maxHeartbeats 4000000 in
set_option maxRecDepth 100000 in
theorem ctX9_law {l : Launch} {D : va_G} {cI cL cS cH : ClassId} {a : Nat → Nat}  {v_keptMany : Int32} {v_done : Int32} {v_rowsOf : Int32} {v_columnsOf : Int32} {v_folded : Int32} {v_wronged : Int32} {v_tapeMany : Int32} {v_textMany : Int32} {v_base : Int32} {v_at : Int32} {v_ends : Int32} {v_fault : Int32} {v_opened : Int32} {v_bentMany : Int32} {v_bentWrong : Int32} {v_moreWorn : Int32} {v_planned : Int32} {v_allWrong : Int32} {v_allWorn : Int32} {v_z : Int32} {v_wishedField : Int32} {v_isFound : Bool} {v_bestWrong : Int32} {v_bestWorn : Int32} {v_bestMany : Int32} {v_soughtBy : Int32} {v_sought : Int32} {v_soughtAt : Int32} {v_foundMany : Int32} {v_foundOrder : Int32} {v_isKept : Bool} {v_imageRows : Int32} {v_imageColumns : Int32} {v_imageFolded : Int32} {v_imageWronged : Int32} {v_bodies : Int32} {v_ran : Int32} {v_ownKind : Int32} {v_ownNumber : Int32} {v_limit : List Int32} {v_changeWas : List Int32} {v_changeIs : List Int32} {v_shapeRows : List Int32} {v_shapeColumns : List Int32} {v_row : List Int32} {v_column : List Int32} {v_below : List Int32} {v_face : List Int32} {v_worn : List Int32} {v_lastBend : List Int32} {v_tape : List Int32} {v_text : List Int32} {v_names : List Int32} {v_bends : List Int32} {v_high : List Int32} {v_to : List Int32} {v_pileSize : List Int32} {v_planLine : List Int32} {v_planWay : List Int32} {v_way1 : List Int32} {v_bestWay : List Int32} {v_order1 : List Int32} {v_placeIn : List Int32} {v_bodyKind : List Int32} {v_trace : List Int32} {v_shelf : List Int32} {v_many : List Int32} {v_items : List Int64} {v_carried : List Int64} {r : Int32} {w_tapeMany : Int32} {w_textMany : Int32} {w_base : Int32} {w_at : Int32} {w_ends : Int32} {w_fault : Int32} {w_opened : Int32} {w_text : List Int32} {N d : Nat} (hd : 57 ≤ d) (hf : fX9_law N v_tapeMany v_textMany v_base v_at v_ends v_fault v_opened v_tape v_text v_names = some (r, w_tapeMany, w_textMany, w_base, w_at, w_ends, w_fault, w_opened, w_text)) : mm_Ct l yX9_law cX9_law 4 (some .int) d D (mm_T cI cL cS cH) [.ref (a 0)] (wd_X9 cI cL cS cH a v_keptMany v_done v_rowsOf v_columnsOf v_folded v_wronged v_tapeMany v_textMany v_base v_at v_ends v_fault v_opened v_bentMany v_bentWrong v_moreWorn v_planned v_allWrong v_allWorn v_z v_wishedField v_isFound v_bestWrong v_bestWorn v_bestMany v_soughtBy v_sought v_soughtAt v_foundMany v_foundOrder v_isKept v_imageRows v_imageColumns v_imageFolded v_imageWronged v_bodies v_ran v_ownKind v_ownNumber v_limit v_changeWas v_changeIs v_shapeRows v_shapeColumns v_row v_column v_below v_face v_worn v_lastBend v_tape v_text v_names v_bends v_high v_to v_pileSize v_planLine v_planWay v_way1 v_bestWay v_order1 v_placeIn v_bodyKind v_trace v_shelf v_many v_items v_carried) (wd_X9 cI cL cS cH a v_keptMany v_done v_rowsOf v_columnsOf v_folded v_wronged w_tapeMany w_textMany w_base w_at w_ends w_fault w_opened v_bentMany v_bentWrong v_moreWorn v_planned v_allWrong v_allWorn v_z v_wishedField v_isFound v_bestWrong v_bestWorn v_bestMany v_soughtBy v_sought v_soughtAt v_foundMany v_foundOrder v_isKept v_imageRows v_imageColumns v_imageFolded v_imageWronged v_bodies v_ran v_ownKind v_ownNumber v_limit v_changeWas v_changeIs v_shapeRows v_shapeColumns v_row v_column v_below v_face v_worn v_lastBend v_tape w_text v_names v_bends v_high v_to v_pileSize v_planLine v_planWay v_way1 v_bestWay v_order1 v_placeIn v_bodyKind v_trace v_shelf v_many v_items v_carried) (some (.int r)) := by
  refine mm_of (by decide) (Nat.le_of_ble_eq_true rfl) ?_
  intro p e s m args below meth c A H locs ls C0 hP hD hA hS hl
  have C0 : mm_Cx p s m args meth c RX9 cX9_law 4 (some .int) D (mm_T cI cL cS cH) A := C0
  obtain ⟨hx, hb, hml, hown, hts, hr, hlocks, hK, hSt⟩ := id C0
  have hl : lv_has ls 4 [(0, .ref (a 0))] := hl
  unfold fX9_law at hf
  refine lv_aload_n hx hb dX9_law_0 rfl (lv_at hl 0 rfl) ?_
  refine lv_iconst (v := -1) hx hb dX9_law_1 (by decide) ?_
  refine lv_aload_n hx hb dX9_law_2 rfl (lv_at hl 0 rfl) ?_
  refine mm_get C0 hP iw_X9 0 rfl rfl 18 (by decide) fl_X9_147 rfl dX9_law_3 ?_
  refine mm_ct6 hf (fun r_1 w_2 w_3 w_4 w_5 w_6 hc_7 hf => ?_)
  refine mm_callVF (q0 := 0) (ci := 9) (rest := []) C0 lk_X9_197 (ctX9_workOut (a := a) (d := d - 1) (by omega) hc_7) (by omega) rfl hl.1 rfl (mm_cat rfl) dX9_law_6 hP hD hA hS rfl rfl (fun H locs hP hD hS => ?_)
  refine W.eq (g2 := F0 m 9 ls [.int r_1]) rfl ?_
  refine lv_istore_n (lv' := [(1, .int r_1), (0, .ref (a 0))]) hx hb dX9_law_9 rfl hl (by decide) rfl (fun ls hl => ?_)
  refine lv_aload_n hx hb dX9_law_10 rfl (lv_at hl 1 rfl) ?_
  refine mm_get C0 hP iw_X9 0 rfl rfl 18 (by decide) fl_X9_147 rfl dX9_law_11 ?_
  refine lv_istore_n (lv' := [(2, .int v_tapeMany), (1, .int r_1), (0, .ref (a 0))]) hx hb dX9_law_14 rfl hl (by decide) rfl (fun ls hl => ?_)
  refine lv_aload_n hx hb dX9_law_15 rfl (lv_at hl 2 rfl) ?_
  refine lv_iconst (v := 0) hx hb dX9_law_16 (by decide) ?_
  refine mm_put C0 hP hD hS iw_X9 tyX9 tyX9_ok nmX9 0 rfl rfl 18 (by decide) fl_X9_147 rfl rfl rfl (Nat.le_of_ble_eq_true rfl) dX9_law_17 (w2 := (wd_X9 cI cL cS cH a v_keptMany v_done v_rowsOf v_columnsOf v_folded v_wronged (0 : Int32) v_textMany w_2 w_3 w_4 w_5 w_6 v_bentMany v_bentWrong v_moreWorn v_planned v_allWrong v_allWorn v_z v_wishedField v_isFound v_bestWrong v_bestWorn v_bestMany v_soughtBy v_sought v_soughtAt v_foundMany v_foundOrder v_isKept v_imageRows v_imageColumns v_imageFolded v_imageWronged v_bodies v_ran v_ownKind v_ownNumber v_limit v_changeWas v_changeIs v_shapeRows v_shapeColumns v_row v_column v_below v_face v_worn v_lastBend v_tape v_text v_names v_bends v_high v_to v_pileSize v_planLine v_planWay v_way1 v_bestWay v_order1 v_placeIn v_bodyKind v_trace v_shelf v_many v_items v_carried)) rfl (fun H locs hP hD hS => ?_)
  refine lv_aload_n hx hb dX9_law_20 rfl (lv_at hl 2 rfl) ?_
  refine mm_get C0 hP iw_X9 0 rfl rfl 24 (by decide) fl_X9_159 rfl dX9_law_21 ?_
  refine lv_if_lt (tgt := 35) hx hb dX9_law_24 (by decide) (fun c_8 => ?_) (fun c_8 => ?_)
  · have hf := mm_ip hf c_8
    refine lv_iconst (v := 0) hx hb dX9_law_35 (by decide) ?_
    refine lv_istore_n (lv' := [(3, .int (0 : Int32)), (2, .int v_tapeMany), (1, .int r_1), (0, .ref (a 0))]) hx hb dX9_law_36 rfl hl (by decide) rfl (fun ls hl => ?_)
    exact tX9_law_37 hd C0 hA N  N _ _ _ _ _ _ _ _ _ _ _ _ H locs ls hf hP hD hS (lv_sub hl [3, 1, 0] rfl)
  · have hf := mm_in hf c_8
    refine lv_bipush (v := -100) hx hb dX9_law_27 (by decide) ?_
    refine lv_aload_n hx hb dX9_law_29 rfl (lv_at hl 2 rfl) ?_
    refine mm_get C0 hP iw_X9 0 rfl rfl 24 (by decide) fl_X9_159 rfl dX9_law_30 ?_
    refine lv_isub hx hb dX9_law_33 ?_
    apply mm_sub9 hf
    exact mm_iret C0 hP hD hS dX9_law_34

theorem nb_dX9_wears_0 : bls_w cX9_wears [(0, [42]), (1, [180, 0, 101]), (4, [156, 0, 9]), (7, [4]), (8, [5]), (9, [29]), (10, [104]), (11, [96]), (12, [172]), (13, [42]), (14, [180, 0, 49]), (17, [3])] := bls_of (by decide +kernel)
theorem dX9_wears_0 : decode cX9_wears 0 = .ok (.aload_n 0, 1) := op_42 nb_dX9_wears_0.1
set_option maxRecDepth 100000 in
theorem dX9_wears_1 : decode cX9_wears 1 = .ok (.getfield 101, 3) := (op_180 nb_dX9_wears_0.2.1).trans rfl
set_option maxRecDepth 100000 in
theorem dX9_wears_4 : decode cX9_wears 4 = .ok (.ifCond .ge 9, 3) := (op_156 nb_dX9_wears_0.2.2.1).trans rfl
theorem dX9_wears_7 : decode cX9_wears 7 = .ok (.iconst 1, 1) := op_4 nb_dX9_wears_0.2.2.2.1
theorem dX9_wears_8 : decode cX9_wears 8 = .ok (.iconst 2, 1) := op_5 nb_dX9_wears_0.2.2.2.2.1
theorem dX9_wears_9 : decode cX9_wears 9 = .ok (.iload_n 3, 1) := op_29 nb_dX9_wears_0.2.2.2.2.2.1
theorem dX9_wears_10 : decode cX9_wears 10 = .ok (.imul, 1) := op_104 nb_dX9_wears_0.2.2.2.2.2.2.1
theorem dX9_wears_11 : decode cX9_wears 11 = .ok (.iadd, 1) := op_96 nb_dX9_wears_0.2.2.2.2.2.2.2.1
theorem dX9_wears_12 : decode cX9_wears 12 = .ok (.ireturn, 1) := op_172 nb_dX9_wears_0.2.2.2.2.2.2.2.2.1
theorem dX9_wears_13 : decode cX9_wears 13 = .ok (.aload_n 0, 1) := op_42 nb_dX9_wears_0.2.2.2.2.2.2.2.2.2.1
set_option maxRecDepth 100000 in
theorem dX9_wears_14 : decode cX9_wears 14 = .ok (.getfield 49, 3) := (op_180 nb_dX9_wears_0.2.2.2.2.2.2.2.2.2.2.1).trans rfl
theorem dX9_wears_17 : decode cX9_wears 17 = .ok (.iconst 0, 1) := op_3 nb_dX9_wears_0.2.2.2.2.2.2.2.2.2.2.2.1
theorem nb_dX9_wears_18 : bls_w cX9_wears [(18, [27]), (19, [79]), (20, [42]), (21, [180, 0, 49]), (24, [4]), (25, [28]), (26, [79]), (27, [42]), (28, [180, 0, 49]), (31, [5]), (32, [29]), (33, [79])] := bls_of (by decide +kernel)
theorem dX9_wears_18 : decode cX9_wears 18 = .ok (.iload_n 1, 1) := op_27 nb_dX9_wears_18.1
theorem dX9_wears_19 : decode cX9_wears 19 = .ok (.iastore, 1) := op_79 nb_dX9_wears_18.2.1
theorem dX9_wears_20 : decode cX9_wears 20 = .ok (.aload_n 0, 1) := op_42 nb_dX9_wears_18.2.2.1
set_option maxRecDepth 100000 in
theorem dX9_wears_21 : decode cX9_wears 21 = .ok (.getfield 49, 3) := (op_180 nb_dX9_wears_18.2.2.2.1).trans rfl
theorem dX9_wears_24 : decode cX9_wears 24 = .ok (.iconst 1, 1) := op_4 nb_dX9_wears_18.2.2.2.2.1
theorem dX9_wears_25 : decode cX9_wears 25 = .ok (.iload_n 2, 1) := op_28 nb_dX9_wears_18.2.2.2.2.2.1
theorem dX9_wears_26 : decode cX9_wears 26 = .ok (.iastore, 1) := op_79 nb_dX9_wears_18.2.2.2.2.2.2.1
theorem dX9_wears_27 : decode cX9_wears 27 = .ok (.aload_n 0, 1) := op_42 nb_dX9_wears_18.2.2.2.2.2.2.2.1
set_option maxRecDepth 100000 in
theorem dX9_wears_28 : decode cX9_wears 28 = .ok (.getfield 49, 3) := (op_180 nb_dX9_wears_18.2.2.2.2.2.2.2.2.1).trans rfl
theorem dX9_wears_31 : decode cX9_wears 31 = .ok (.iconst 2, 1) := op_5 nb_dX9_wears_18.2.2.2.2.2.2.2.2.2.1
theorem dX9_wears_32 : decode cX9_wears 32 = .ok (.iload_n 3, 1) := op_29 nb_dX9_wears_18.2.2.2.2.2.2.2.2.2.2.1
theorem dX9_wears_33 : decode cX9_wears 33 = .ok (.iastore, 1) := op_79 nb_dX9_wears_18.2.2.2.2.2.2.2.2.2.2.2.1
theorem nb_dX9_wears_34 : bls_w cX9_wears [(34, [42]), (35, [180, 0, 49]), (38, [6]), (39, [21, 4]), (41, [5]), (42, [112]), (43, [79]), (44, [42]), (45, [180, 0, 49]), (48, [7]), (49, [21, 4]), (51, [5])] := bls_of (by decide +kernel)
theorem dX9_wears_34 : decode cX9_wears 34 = .ok (.aload_n 0, 1) := op_42 nb_dX9_wears_34.1
set_option maxRecDepth 100000 in
theorem dX9_wears_35 : decode cX9_wears 35 = .ok (.getfield 49, 3) := (op_180 nb_dX9_wears_34.2.1).trans rfl
theorem dX9_wears_38 : decode cX9_wears 38 = .ok (.iconst 3, 1) := op_6 nb_dX9_wears_34.2.2.1
set_option maxRecDepth 100000 in
theorem dX9_wears_39 : decode cX9_wears 39 = .ok (.iload 4, 2) := (op_21 nb_dX9_wears_34.2.2.2.1).trans rfl
theorem dX9_wears_41 : decode cX9_wears 41 = .ok (.iconst 2, 1) := op_5 nb_dX9_wears_34.2.2.2.2.1
theorem dX9_wears_42 : decode cX9_wears 42 = .ok (.irem, 1) := op_112 nb_dX9_wears_34.2.2.2.2.2.1
theorem dX9_wears_43 : decode cX9_wears 43 = .ok (.iastore, 1) := op_79 nb_dX9_wears_34.2.2.2.2.2.2.1
theorem dX9_wears_44 : decode cX9_wears 44 = .ok (.aload_n 0, 1) := op_42 nb_dX9_wears_34.2.2.2.2.2.2.2.1
set_option maxRecDepth 100000 in
theorem dX9_wears_45 : decode cX9_wears 45 = .ok (.getfield 49, 3) := (op_180 nb_dX9_wears_34.2.2.2.2.2.2.2.2.1).trans rfl
theorem dX9_wears_48 : decode cX9_wears 48 = .ok (.iconst 4, 1) := op_7 nb_dX9_wears_34.2.2.2.2.2.2.2.2.2.1
set_option maxRecDepth 100000 in
theorem dX9_wears_49 : decode cX9_wears 49 = .ok (.iload 4, 2) := (op_21 nb_dX9_wears_34.2.2.2.2.2.2.2.2.2.2.1).trans rfl
theorem dX9_wears_51 : decode cX9_wears 51 = .ok (.iconst 2, 1) := op_5 nb_dX9_wears_34.2.2.2.2.2.2.2.2.2.2.2.1
theorem nb_dX9_wears_52 : bls_w cX9_wears [(52, [108]), (53, [79]), (54, [42]), (55, [180, 0, 49]), (58, [8]), (59, [21, 5]), (61, [79]), (62, [42]), (63, [3]), (64, [42]), (65, [180, 0, 101]), (68, [182, 0, 197])] := bls_of (by decide +kernel)
theorem dX9_wears_52 : decode cX9_wears 52 = .ok (.idiv, 1) := op_108 nb_dX9_wears_52.1
theorem dX9_wears_53 : decode cX9_wears 53 = .ok (.iastore, 1) := op_79 nb_dX9_wears_52.2.1
theorem dX9_wears_54 : decode cX9_wears 54 = .ok (.aload_n 0, 1) := op_42 nb_dX9_wears_52.2.2.1
set_option maxRecDepth 100000 in
theorem dX9_wears_55 : decode cX9_wears 55 = .ok (.getfield 49, 3) := (op_180 nb_dX9_wears_52.2.2.2.1).trans rfl
theorem dX9_wears_58 : decode cX9_wears 58 = .ok (.iconst 5, 1) := op_8 nb_dX9_wears_52.2.2.2.2.1
set_option maxRecDepth 100000 in
theorem dX9_wears_59 : decode cX9_wears 59 = .ok (.iload 5, 2) := (op_21 nb_dX9_wears_52.2.2.2.2.2.1).trans rfl
theorem dX9_wears_61 : decode cX9_wears 61 = .ok (.iastore, 1) := op_79 nb_dX9_wears_52.2.2.2.2.2.2.1
theorem dX9_wears_62 : decode cX9_wears 62 = .ok (.aload_n 0, 1) := op_42 nb_dX9_wears_52.2.2.2.2.2.2.2.1
theorem dX9_wears_63 : decode cX9_wears 63 = .ok (.iconst 0, 1) := op_3 nb_dX9_wears_52.2.2.2.2.2.2.2.2.1
theorem dX9_wears_64 : decode cX9_wears 64 = .ok (.aload_n 0, 1) := op_42 nb_dX9_wears_52.2.2.2.2.2.2.2.2.2.1
set_option maxRecDepth 100000 in
theorem dX9_wears_65 : decode cX9_wears 65 = .ok (.getfield 101, 3) := (op_180 nb_dX9_wears_52.2.2.2.2.2.2.2.2.2.2.1).trans rfl
set_option maxRecDepth 100000 in
theorem dX9_wears_68 : decode cX9_wears 68 = .ok (.invokevirtual 197, 3) := (op_182 nb_dX9_wears_52.2.2.2.2.2.2.2.2.2.2.2.1).trans rfl
theorem nb_dX9_wears_71 : bls_w cX9_wears [(71, [54, 6]), (73, [21, 6]), (75, [156, 0, 7]), (78, [3]), (79, [167, 0, 17]), (82, [21, 6]), (84, [16, 9]), (86, [164, 0, 8]), (89, [16, 9]), (91, [167, 0, 5]), (94, [21, 6]), (96, [172])] := bls_of (by decide +kernel)
set_option maxRecDepth 100000 in
theorem dX9_wears_71 : decode cX9_wears 71 = .ok (.istore 6, 2) := (op_54 nb_dX9_wears_71.1).trans rfl
set_option maxRecDepth 100000 in
theorem dX9_wears_73 : decode cX9_wears 73 = .ok (.iload 6, 2) := (op_21 nb_dX9_wears_71.2.1).trans rfl
set_option maxRecDepth 100000 in
theorem dX9_wears_75 : decode cX9_wears 75 = .ok (.ifCond .ge 7, 3) := (op_156 nb_dX9_wears_71.2.2.1).trans rfl
theorem dX9_wears_78 : decode cX9_wears 78 = .ok (.iconst 0, 1) := op_3 nb_dX9_wears_71.2.2.2.1
set_option maxRecDepth 100000 in
theorem dX9_wears_79 : decode cX9_wears 79 = .ok (.goto 17, 3) := (op_167 nb_dX9_wears_71.2.2.2.2.1).trans rfl
set_option maxRecDepth 100000 in
theorem dX9_wears_82 : decode cX9_wears 82 = .ok (.iload 6, 2) := (op_21 nb_dX9_wears_71.2.2.2.2.2.1).trans rfl
set_option maxRecDepth 100000 in
theorem dX9_wears_84 : decode cX9_wears 84 = .ok (.bipush 9, 2) := (op_16 nb_dX9_wears_71.2.2.2.2.2.2.1).trans rfl
set_option maxRecDepth 100000 in
theorem dX9_wears_86 : decode cX9_wears 86 = .ok (.if_icmp .le 8, 3) := (op_164 nb_dX9_wears_71.2.2.2.2.2.2.2.1).trans rfl
set_option maxRecDepth 100000 in
theorem dX9_wears_89 : decode cX9_wears 89 = .ok (.bipush 9, 2) := (op_16 nb_dX9_wears_71.2.2.2.2.2.2.2.2.1).trans rfl
set_option maxRecDepth 100000 in
theorem dX9_wears_91 : decode cX9_wears 91 = .ok (.goto 5, 3) := (op_167 nb_dX9_wears_71.2.2.2.2.2.2.2.2.2.1).trans rfl
set_option maxRecDepth 100000 in
theorem dX9_wears_94 : decode cX9_wears 94 = .ok (.iload 6, 2) := (op_21 nb_dX9_wears_71.2.2.2.2.2.2.2.2.2.2.1).trans rfl
theorem dX9_wears_96 : decode cX9_wears 96 = .ok (.ireturn, 1) := op_172 nb_dX9_wears_71.2.2.2.2.2.2.2.2.2.2.2.1
def fX9_wears (N : Nat) (x1 : Int32) (x2 : Int32) (x3 : Int32) (x4 : Int32) (x5 : Int32) (v_textMany : Int32) (v_base : Int32) (v_at : Int32) (v_ends : Int32) (v_fault : Int32) (v_opened : Int32) (v_tape : List Int32) (v_text : List Int32) (v_names : List Int32) : Option (Int32 × Int32 × Int32 × Int32 × Int32 × Int32 × List Int32) :=
    if 0 ≤ v_textMany then
    (mm_ck (mm_inb (0 : Int32) v_names.length) (mm_nm (mm_is v_names (0 : Int32) x1) (fun (l_3 : List Int32) =>
    mm_ck (mm_inb (1 : Int32) l_3.length) (mm_nm (mm_is l_3 (1 : Int32) x2) (fun (l_5 : List Int32) =>
    mm_ck (mm_inb (2 : Int32) l_5.length) (mm_nm (mm_is l_5 (2 : Int32) x3) (fun (l_7 : List Int32) =>
    mm_ck (mm_nz (2 : Int32)) (mm_nm ((mm_rem x4 (2 : Int32))) (fun (y_9 : Int32) =>
    mm_ck (mm_inb (3 : Int32) l_7.length) (mm_nm (mm_is l_7 (3 : Int32) y_9) (fun (l_11 : List Int32) =>
    mm_ck (mm_nz (2 : Int32)) (mm_nm ((x4 / (2 : Int32))) (fun (y_13 : Int32) =>
    mm_ck (mm_inb (4 : Int32) l_11.length) (mm_nm (mm_is l_11 (4 : Int32) y_13) (fun (l_15 : List Int32) =>
    mm_ck (mm_inb (5 : Int32) l_15.length) (mm_nm (mm_is l_15 (5 : Int32) x5) (fun (l_17 : List Int32) =>
    mm_bd6 (fX9_workOut N (0 : Int32) v_textMany v_base v_at v_ends v_fault v_opened v_tape v_text l_17) (fun (r_18 : Int32) (w_19 : Int32) (w_20 : Int32) (w_21 : Int32) (w_22 : Int32) (w_23 : Int32) =>
    if 0 ≤ r_18 then
    (if r_18 ≤ (9 : Int32) then
    (some (r_18, w_19, w_20, w_21, w_22, w_23, l_17))
    else (some ((9 : Int32), w_19, w_20, w_21, w_22, w_23, l_17)))
    else (some ((0 : Int32), w_19, w_20, w_21, w_22, w_23, l_17))))))))))))))))))))
    else (some (((1 : Int32) + ((2 : Int32) * x3)), v_base, v_at, v_ends, v_fault, v_opened, v_names))

set_option maxHeartbeats 4000000 in
set_option maxRecDepth 100000 in
theorem ctX9_wears {l : Launch} {D : va_G} {cI cL cS cH : ClassId} {a : Nat → Nat} {x1 : Int32} {x2 : Int32} {x3 : Int32} {x4 : Int32} {x5 : Int32} {v_keptMany : Int32} {v_done : Int32} {v_rowsOf : Int32} {v_columnsOf : Int32} {v_folded : Int32} {v_wronged : Int32} {v_tapeMany : Int32} {v_textMany : Int32} {v_base : Int32} {v_at : Int32} {v_ends : Int32} {v_fault : Int32} {v_opened : Int32} {v_bentMany : Int32} {v_bentWrong : Int32} {v_moreWorn : Int32} {v_planned : Int32} {v_allWrong : Int32} {v_allWorn : Int32} {v_z : Int32} {v_wishedField : Int32} {v_isFound : Bool} {v_bestWrong : Int32} {v_bestWorn : Int32} {v_bestMany : Int32} {v_soughtBy : Int32} {v_sought : Int32} {v_soughtAt : Int32} {v_foundMany : Int32} {v_foundOrder : Int32} {v_isKept : Bool} {v_imageRows : Int32} {v_imageColumns : Int32} {v_imageFolded : Int32} {v_imageWronged : Int32} {v_bodies : Int32} {v_ran : Int32} {v_ownKind : Int32} {v_ownNumber : Int32} {v_limit : List Int32} {v_changeWas : List Int32} {v_changeIs : List Int32} {v_shapeRows : List Int32} {v_shapeColumns : List Int32} {v_row : List Int32} {v_column : List Int32} {v_below : List Int32} {v_face : List Int32} {v_worn : List Int32} {v_lastBend : List Int32} {v_tape : List Int32} {v_text : List Int32} {v_names : List Int32} {v_bends : List Int32} {v_high : List Int32} {v_to : List Int32} {v_pileSize : List Int32} {v_planLine : List Int32} {v_planWay : List Int32} {v_way1 : List Int32} {v_bestWay : List Int32} {v_order1 : List Int32} {v_placeIn : List Int32} {v_bodyKind : List Int32} {v_trace : List Int32} {v_shelf : List Int32} {v_many : List Int32} {v_items : List Int64} {v_carried : List Int64} {r : Int32} {w_base : Int32} {w_at : Int32} {w_ends : Int32} {w_fault : Int32} {w_opened : Int32} {w_names : List Int32} {N d : Nat} (hd : 57 ≤ d) (hf : fX9_wears N x1 x2 x3 x4 x5 v_textMany v_base v_at v_ends v_fault v_opened v_tape v_text v_names = some (r, w_base, w_at, w_ends, w_fault, w_opened, w_names)) : mm_Ct l yX9_wears cX9_wears 7 (some .int) d D (mm_T cI cL cS cH) [.ref (a 0), .int x1, .int x2, .int x3, .int x4, .int x5] (wd_X9 cI cL cS cH a v_keptMany v_done v_rowsOf v_columnsOf v_folded v_wronged v_tapeMany v_textMany v_base v_at v_ends v_fault v_opened v_bentMany v_bentWrong v_moreWorn v_planned v_allWrong v_allWorn v_z v_wishedField v_isFound v_bestWrong v_bestWorn v_bestMany v_soughtBy v_sought v_soughtAt v_foundMany v_foundOrder v_isKept v_imageRows v_imageColumns v_imageFolded v_imageWronged v_bodies v_ran v_ownKind v_ownNumber v_limit v_changeWas v_changeIs v_shapeRows v_shapeColumns v_row v_column v_below v_face v_worn v_lastBend v_tape v_text v_names v_bends v_high v_to v_pileSize v_planLine v_planWay v_way1 v_bestWay v_order1 v_placeIn v_bodyKind v_trace v_shelf v_many v_items v_carried) (wd_X9 cI cL cS cH a v_keptMany v_done v_rowsOf v_columnsOf v_folded v_wronged v_tapeMany v_textMany w_base w_at w_ends w_fault w_opened v_bentMany v_bentWrong v_moreWorn v_planned v_allWrong v_allWorn v_z v_wishedField v_isFound v_bestWrong v_bestWorn v_bestMany v_soughtBy v_sought v_soughtAt v_foundMany v_foundOrder v_isKept v_imageRows v_imageColumns v_imageFolded v_imageWronged v_bodies v_ran v_ownKind v_ownNumber v_limit v_changeWas v_changeIs v_shapeRows v_shapeColumns v_row v_column v_below v_face v_worn v_lastBend v_tape v_text w_names v_bends v_high v_to v_pileSize v_planLine v_planWay v_way1 v_bestWay v_order1 v_placeIn v_bodyKind v_trace v_shelf v_many v_items v_carried) (some (.int r)) := by
  refine mm_of (by decide) (Nat.le_of_ble_eq_true rfl) ?_
  intro p e s m args below meth c A H locs ls C0 hP hD hA hS hl
  have C0 : mm_Cx p s m args meth c RX9 cX9_wears 7 (some .int) D (mm_T cI cL cS cH) A := C0
  obtain ⟨hx, hb, hml, hown, hts, hr, hlocks, hK, hSt⟩ := id C0
  have hl : lv_has ls 7 [(0, .ref (a 0)), (1, .int x1), (2, .int x2), (3, .int x3), (4, .int x4), (5, .int x5)] := hl
  unfold fX9_wears at hf
  refine lv_aload_n hx hb dX9_wears_0 rfl (lv_at hl 0 rfl) ?_
  refine mm_get C0 hP iw_X9 0 rfl rfl 20 (by decide) fl_X9_101 rfl dX9_wears_1 ?_
  refine lv_if_ge (tgt := 13) hx hb dX9_wears_4 (by decide) (fun c_1 => ?_) (fun c_1 => ?_)
  · have hf := mm_ip hf c_1
    refine lv_aload_n hx hb dX9_wears_13 rfl (lv_at hl 0 rfl) ?_
    refine mm_get C0 hP iw_X9 0 rfl rfl 26 (by decide) fl_X9_49 rfl dX9_wears_14 ?_
    refine lv_iconst (v := 0) hx hb dX9_wears_17 (by decide) ?_
    refine lv_iload_n hx hb dX9_wears_18 rfl (lv_at hl 1 rfl) ?_
    obtain ⟨h_2, hf⟩ := mm_cks hf
    refine mm_iast C0 hP hD hS 14 rfl h_2 dX9_wears_19 (w2 := (wd_X9 cI cL cS cH a v_keptMany v_done v_rowsOf v_columnsOf v_folded v_wronged v_tapeMany v_textMany v_base v_at v_ends v_fault v_opened v_bentMany v_bentWrong v_moreWorn v_planned v_allWrong v_allWorn v_z v_wishedField v_isFound v_bestWrong v_bestWorn v_bestMany v_soughtBy v_sought v_soughtAt v_foundMany v_foundOrder v_isKept v_imageRows v_imageColumns v_imageFolded v_imageWronged v_bodies v_ran v_ownKind v_ownNumber v_limit v_changeWas v_changeIs v_shapeRows v_shapeColumns v_row v_column v_below v_face v_worn v_lastBend v_tape v_text (mm_is v_names (0 : Int32) x1) v_bends v_high v_to v_pileSize v_planLine v_planWay v_way1 v_bestWay v_order1 v_placeIn v_bodyKind v_trace v_shelf v_many v_items v_carried)) rfl (fun H locs hP hD hS => ?_)
    generalize el_3 : (mm_is v_names (0 : Int32) x1) = l_3 at hP hD
    have hf := mm_nms hf el_3.symm
    refine lv_aload_n hx hb dX9_wears_20 rfl (lv_at hl 0 rfl) ?_
    refine mm_get C0 hP iw_X9 0 rfl rfl 26 (by decide) fl_X9_49 rfl dX9_wears_21 ?_
    refine lv_iconst (v := 1) hx hb dX9_wears_24 (by decide) ?_
    refine lv_iload_n hx hb dX9_wears_25 rfl (lv_at hl 2 rfl) ?_
    obtain ⟨h_4, hf⟩ := mm_cks hf
    refine mm_iast C0 hP hD hS 14 rfl h_4 dX9_wears_26 (w2 := (wd_X9 cI cL cS cH a v_keptMany v_done v_rowsOf v_columnsOf v_folded v_wronged v_tapeMany v_textMany v_base v_at v_ends v_fault v_opened v_bentMany v_bentWrong v_moreWorn v_planned v_allWrong v_allWorn v_z v_wishedField v_isFound v_bestWrong v_bestWorn v_bestMany v_soughtBy v_sought v_soughtAt v_foundMany v_foundOrder v_isKept v_imageRows v_imageColumns v_imageFolded v_imageWronged v_bodies v_ran v_ownKind v_ownNumber v_limit v_changeWas v_changeIs v_shapeRows v_shapeColumns v_row v_column v_below v_face v_worn v_lastBend v_tape v_text (mm_is l_3 (1 : Int32) x2) v_bends v_high v_to v_pileSize v_planLine v_planWay v_way1 v_bestWay v_order1 v_placeIn v_bodyKind v_trace v_shelf v_many v_items v_carried)) rfl (fun H locs hP hD hS => ?_)
    generalize el_5 : (mm_is l_3 (1 : Int32) x2) = l_5 at hP hD
    have hf := mm_nms hf el_5.symm
    refine lv_aload_n hx hb dX9_wears_27 rfl (lv_at hl 0 rfl) ?_
    refine mm_get C0 hP iw_X9 0 rfl rfl 26 (by decide) fl_X9_49 rfl dX9_wears_28 ?_
    refine lv_iconst (v := 2) hx hb dX9_wears_31 (by decide) ?_
    refine lv_iload_n hx hb dX9_wears_32 rfl (lv_at hl 3 rfl) ?_
    obtain ⟨h_6, hf⟩ := mm_cks hf
    refine mm_iast C0 hP hD hS 14 rfl h_6 dX9_wears_33 (w2 := (wd_X9 cI cL cS cH a v_keptMany v_done v_rowsOf v_columnsOf v_folded v_wronged v_tapeMany v_textMany v_base v_at v_ends v_fault v_opened v_bentMany v_bentWrong v_moreWorn v_planned v_allWrong v_allWorn v_z v_wishedField v_isFound v_bestWrong v_bestWorn v_bestMany v_soughtBy v_sought v_soughtAt v_foundMany v_foundOrder v_isKept v_imageRows v_imageColumns v_imageFolded v_imageWronged v_bodies v_ran v_ownKind v_ownNumber v_limit v_changeWas v_changeIs v_shapeRows v_shapeColumns v_row v_column v_below v_face v_worn v_lastBend v_tape v_text (mm_is l_5 (2 : Int32) x3) v_bends v_high v_to v_pileSize v_planLine v_planWay v_way1 v_bestWay v_order1 v_placeIn v_bodyKind v_trace v_shelf v_many v_items v_carried)) rfl (fun H locs hP hD hS => ?_)
    generalize el_7 : (mm_is l_5 (2 : Int32) x3) = l_7 at hP hD
    have hf := mm_nms hf el_7.symm
    refine lv_aload_n hx hb dX9_wears_34 rfl (lv_at hl 0 rfl) ?_
    refine mm_get C0 hP iw_X9 0 rfl rfl 26 (by decide) fl_X9_49 rfl dX9_wears_35 ?_
    refine lv_iconst (v := 3) hx hb dX9_wears_38 (by decide) ?_
    refine lv_iload hx hb dX9_wears_39 (lv_at hl 4 rfl) ?_
    refine lv_iconst (v := 2) hx hb dX9_wears_41 (by decide) ?_
    obtain ⟨h_8, hf⟩ := mm_cks hf
    refine lv_irem hx hb dX9_wears_42 (mm_nzs h_8) ?_
    refine lv_topi (fun y_9 ey_9 => ?_)
    have hf := mm_nms hf ey_9
    obtain ⟨h_10, hf⟩ := mm_cks hf
    refine mm_iast C0 hP hD hS 14 rfl h_10 dX9_wears_43 (w2 := (wd_X9 cI cL cS cH a v_keptMany v_done v_rowsOf v_columnsOf v_folded v_wronged v_tapeMany v_textMany v_base v_at v_ends v_fault v_opened v_bentMany v_bentWrong v_moreWorn v_planned v_allWrong v_allWorn v_z v_wishedField v_isFound v_bestWrong v_bestWorn v_bestMany v_soughtBy v_sought v_soughtAt v_foundMany v_foundOrder v_isKept v_imageRows v_imageColumns v_imageFolded v_imageWronged v_bodies v_ran v_ownKind v_ownNumber v_limit v_changeWas v_changeIs v_shapeRows v_shapeColumns v_row v_column v_below v_face v_worn v_lastBend v_tape v_text (mm_is l_7 (3 : Int32) y_9) v_bends v_high v_to v_pileSize v_planLine v_planWay v_way1 v_bestWay v_order1 v_placeIn v_bodyKind v_trace v_shelf v_many v_items v_carried)) rfl (fun H locs hP hD hS => ?_)
    generalize el_11 : (mm_is l_7 (3 : Int32) y_9) = l_11 at hP hD
    have hf := mm_nms hf el_11.symm
    refine lv_aload_n hx hb dX9_wears_44 rfl (lv_at hl 0 rfl) ?_
    refine mm_get C0 hP iw_X9 0 rfl rfl 26 (by decide) fl_X9_49 rfl dX9_wears_45 ?_
    refine lv_iconst (v := 4) hx hb dX9_wears_48 (by decide) ?_
    refine lv_iload hx hb dX9_wears_49 (lv_at hl 4 rfl) ?_
    refine lv_iconst (v := 2) hx hb dX9_wears_51 (by decide) ?_
    obtain ⟨h_12, hf⟩ := mm_cks hf
    refine lv_idiv hx hb dX9_wears_52 (mm_nzs h_12) ?_
    refine lv_topi (fun y_13 ey_13 => ?_)
    have hf := mm_nms hf ey_13
    obtain ⟨h_14, hf⟩ := mm_cks hf
    refine mm_iast C0 hP hD hS 14 rfl h_14 dX9_wears_53 (w2 := (wd_X9 cI cL cS cH a v_keptMany v_done v_rowsOf v_columnsOf v_folded v_wronged v_tapeMany v_textMany v_base v_at v_ends v_fault v_opened v_bentMany v_bentWrong v_moreWorn v_planned v_allWrong v_allWorn v_z v_wishedField v_isFound v_bestWrong v_bestWorn v_bestMany v_soughtBy v_sought v_soughtAt v_foundMany v_foundOrder v_isKept v_imageRows v_imageColumns v_imageFolded v_imageWronged v_bodies v_ran v_ownKind v_ownNumber v_limit v_changeWas v_changeIs v_shapeRows v_shapeColumns v_row v_column v_below v_face v_worn v_lastBend v_tape v_text (mm_is l_11 (4 : Int32) y_13) v_bends v_high v_to v_pileSize v_planLine v_planWay v_way1 v_bestWay v_order1 v_placeIn v_bodyKind v_trace v_shelf v_many v_items v_carried)) rfl (fun H locs hP hD hS => ?_)
    generalize el_15 : (mm_is l_11 (4 : Int32) y_13) = l_15 at hP hD
    have hf := mm_nms hf el_15.symm
    refine lv_aload_n hx hb dX9_wears_54 rfl (lv_at hl 0 rfl) ?_
    refine mm_get C0 hP iw_X9 0 rfl rfl 26 (by decide) fl_X9_49 rfl dX9_wears_55 ?_
    refine lv_iconst (v := 5) hx hb dX9_wears_58 (by decide) ?_
    refine lv_iload hx hb dX9_wears_59 (lv_at hl 5 rfl) ?_
    obtain ⟨h_16, hf⟩ := mm_cks hf
    refine mm_iast C0 hP hD hS 14 rfl h_16 dX9_wears_61 (w2 := (wd_X9 cI cL cS cH a v_keptMany v_done v_rowsOf v_columnsOf v_folded v_wronged v_tapeMany v_textMany v_base v_at v_ends v_fault v_opened v_bentMany v_bentWrong v_moreWorn v_planned v_allWrong v_allWorn v_z v_wishedField v_isFound v_bestWrong v_bestWorn v_bestMany v_soughtBy v_sought v_soughtAt v_foundMany v_foundOrder v_isKept v_imageRows v_imageColumns v_imageFolded v_imageWronged v_bodies v_ran v_ownKind v_ownNumber v_limit v_changeWas v_changeIs v_shapeRows v_shapeColumns v_row v_column v_below v_face v_worn v_lastBend v_tape v_text (mm_is l_15 (5 : Int32) x5) v_bends v_high v_to v_pileSize v_planLine v_planWay v_way1 v_bestWay v_order1 v_placeIn v_bodyKind v_trace v_shelf v_many v_items v_carried)) rfl (fun H locs hP hD hS => ?_)
    generalize el_17 : (mm_is l_15 (5 : Int32) x5) = l_17 at hP hD
    have hf := mm_nms hf el_17.symm
    refine lv_aload_n hx hb dX9_wears_62 rfl (lv_at hl 0 rfl) ?_
    refine lv_iconst (v := 0) hx hb dX9_wears_63 (by decide) ?_
    refine lv_aload_n hx hb dX9_wears_64 rfl (lv_at hl 0 rfl) ?_
    refine mm_get C0 hP iw_X9 0 rfl rfl 20 (by decide) fl_X9_101 rfl dX9_wears_65 ?_
    refine mm_ct6 hf (fun r_18 w_19 w_20 w_21 w_22 w_23 hc_24 hf => ?_)
    refine mm_callVF (q0 := 0) (ci := 9) (rest := []) C0 lk_X9_197 (ctX9_workOut (a := a) (d := d - 1) (by omega) hc_24) (by omega) rfl hl.1 rfl (mm_cat rfl) dX9_wears_68 hP hD hA hS rfl rfl (fun H locs hP hD hS => ?_)
    refine W.eq (g2 := F0 m 71 ls [.int r_18]) rfl ?_
    refine lv_istore (lv' := [(6, .int r_18), (0, .ref (a 0)), (1, .int x1), (2, .int x2), (3, .int x3), (4, .int x4), (5, .int x5)]) hx hb dX9_wears_71 hl (by decide) rfl (fun ls hl => ?_)
    refine lv_iload hx hb dX9_wears_73 (lv_at hl 0 rfl) ?_
    refine lv_if_ge (tgt := 82) hx hb dX9_wears_75 (by decide) (fun c_25 => ?_) (fun c_25 => ?_)
    · have hf := mm_ip hf c_25
      refine lv_iload hx hb dX9_wears_82 (lv_at hl 0 rfl) ?_
      refine lv_bipush (v := 9) hx hb dX9_wears_84 (by decide) ?_
      refine lv_icmp_le (tgt := 94) hx hb dX9_wears_86 (by decide) (fun c_26 => ?_) (fun c_26 => ?_)
      · have hf := mm_ip hf c_26
        refine lv_iload hx hb dX9_wears_94 (lv_at hl 0 rfl) ?_
        apply mm_sub7 hf
        exact mm_iret C0 hP hD hS dX9_wears_96
      · have hf := mm_in hf c_26
        refine lv_bipush (v := 9) hx hb dX9_wears_89 (by decide) ?_
        refine lv_goto (tgt := 96) hx hb dX9_wears_91 (by decide) ?_
        apply mm_sub7 hf
        exact mm_iret C0 hP hD hS dX9_wears_96
    · have hf := mm_in hf c_25
      refine lv_iconst (v := 0) hx hb dX9_wears_78 (by decide) ?_
      refine lv_goto (tgt := 96) hx hb dX9_wears_79 (by decide) ?_
      apply mm_sub7 hf
      exact mm_iret C0 hP hD hS dX9_wears_96
  · have hf := mm_in hf c_1
    refine lv_iconst (v := 1) hx hb dX9_wears_7 (by decide) ?_
    refine lv_iconst (v := 2) hx hb dX9_wears_8 (by decide) ?_
    refine lv_iload_n hx hb dX9_wears_9 rfl (lv_at hl 3 rfl) ?_
    refine lv_imul hx hb dX9_wears_10 ?_
    refine lv_iadd hx hb dX9_wears_11 ?_
    apply mm_sub7 hf
    exact mm_iret C0 hP hD hS dX9_wears_12

theorem nb_dX9_isLine_0 : bls_w cX9_isLine [(0, [28]), (1, [133]), (2, [10]), (3, [29]), (4, [7]), (5, [162, 0, 12]), (8, [42]), (9, [180, 0, 22]), (12, [27]), (13, [46]), (14, [167, 0, 9]), (17, [42])] := bls_of (by decide +kernel)
theorem dX9_isLine_0 : decode cX9_isLine 0 = .ok (.iload_n 2, 1) := op_28 nb_dX9_isLine_0.1
theorem dX9_isLine_1 : decode cX9_isLine 1 = .ok (.i2l, 1) := op_133 nb_dX9_isLine_0.2.1
theorem dX9_isLine_2 : decode cX9_isLine 2 = .ok (.lconst 1, 1) := op_10 nb_dX9_isLine_0.2.2.1
theorem dX9_isLine_3 : decode cX9_isLine 3 = .ok (.iload_n 3, 1) := op_29 nb_dX9_isLine_0.2.2.2.1
theorem dX9_isLine_4 : decode cX9_isLine 4 = .ok (.iconst 4, 1) := op_7 nb_dX9_isLine_0.2.2.2.2.1
set_option maxRecDepth 100000 in
theorem dX9_isLine_5 : decode cX9_isLine 5 = .ok (.if_icmp .ge 12, 3) := (op_162 nb_dX9_isLine_0.2.2.2.2.2.1).trans rfl
theorem dX9_isLine_8 : decode cX9_isLine 8 = .ok (.aload_n 0, 1) := op_42 nb_dX9_isLine_0.2.2.2.2.2.2.1
set_option maxRecDepth 100000 in
theorem dX9_isLine_9 : decode cX9_isLine 9 = .ok (.getfield 22, 3) := (op_180 nb_dX9_isLine_0.2.2.2.2.2.2.2.1).trans rfl
theorem dX9_isLine_12 : decode cX9_isLine 12 = .ok (.iload_n 1, 1) := op_27 nb_dX9_isLine_0.2.2.2.2.2.2.2.2.1
theorem dX9_isLine_13 : decode cX9_isLine 13 = .ok (.iaload, 1) := op_46 nb_dX9_isLine_0.2.2.2.2.2.2.2.2.2.1
set_option maxRecDepth 100000 in
theorem dX9_isLine_14 : decode cX9_isLine 14 = .ok (.goto 9, 3) := (op_167 nb_dX9_isLine_0.2.2.2.2.2.2.2.2.2.2.1).trans rfl
theorem dX9_isLine_17 : decode cX9_isLine 17 = .ok (.aload_n 0, 1) := op_42 nb_dX9_isLine_0.2.2.2.2.2.2.2.2.2.2.2.1
theorem nb_dX9_isLine_18 : bls_w cX9_isLine [(18, [180, 0, 19]), (21, [27]), (22, [46]), (23, [4]), (24, [100]), (25, [133]), (26, [184, 0, 111]), (29, [172])] := bls_of (by decide +kernel)
set_option maxRecDepth 100000 in
theorem dX9_isLine_18 : decode cX9_isLine 18 = .ok (.getfield 19, 3) := (op_180 nb_dX9_isLine_18.1).trans rfl
theorem dX9_isLine_21 : decode cX9_isLine 21 = .ok (.iload_n 1, 1) := op_27 nb_dX9_isLine_18.2.1
theorem dX9_isLine_22 : decode cX9_isLine 22 = .ok (.iaload, 1) := op_46 nb_dX9_isLine_18.2.2.1
theorem dX9_isLine_23 : decode cX9_isLine 23 = .ok (.iconst 1, 1) := op_4 nb_dX9_isLine_18.2.2.2.1
theorem dX9_isLine_24 : decode cX9_isLine 24 = .ok (.isub, 1) := op_100 nb_dX9_isLine_18.2.2.2.2.1
theorem dX9_isLine_25 : decode cX9_isLine 25 = .ok (.i2l, 1) := op_133 nb_dX9_isLine_18.2.2.2.2.2.1
set_option maxRecDepth 100000 in
theorem dX9_isLine_26 : decode cX9_isLine 26 = .ok (.invokestatic 111, 3) := (op_184 nb_dX9_isLine_18.2.2.2.2.2.2.1).trans rfl
theorem dX9_isLine_29 : decode cX9_isLine 29 = .ok (.ireturn, 1) := op_172 nb_dX9_isLine_18.2.2.2.2.2.2.2.1
def fX9_isLine_23 (N : Nat)  (s0 : Int32) (s1 : Int64) (s2 : Int64) (v_shapeRows : List Int32) (v_shapeColumns : List Int32) : Option (Bool) :=
    mm_bd1 (fX9_within N s2 s1 ((s0 - (1 : Int32)).toInt64)) (fun (r_4 : Bool) =>
    some (r_4))

set_option maxHeartbeats 4000000 in
set_option maxRecDepth 100000 in
theorem tX9_isLine_23 {p : Program} {l : Launch} {e : Env} {s : State} {m : MethodId} {args : Array Value} {below : List Frame} {meth : Method} {c : Code} {D : va_G} {cI cL cS cH : ClassId} {A : Nat → Prop} {d : Nat} {a : Nat → Nat} (hd : 2 ≤ d) (C0 : mm_Cx p s m args meth c RX9 cX9_isLine 4 (some .boolean) D (mm_T cI cL cS cH) A) (hA : ∀ q, s.heap.size ≤ q → A q) {v_keptMany : Int32} {v_done : Int32} {v_rowsOf : Int32} {v_columnsOf : Int32} {v_folded : Int32} {v_wronged : Int32} {v_tapeMany : Int32} {v_textMany : Int32} {v_base : Int32} {v_at : Int32} {v_ends : Int32} {v_fault : Int32} {v_opened : Int32} {v_bentMany : Int32} {v_bentWrong : Int32} {v_moreWorn : Int32} {v_planned : Int32} {v_allWrong : Int32} {v_allWorn : Int32} {v_z : Int32} {v_wishedField : Int32} {v_isFound : Bool} {v_bestWrong : Int32} {v_bestWorn : Int32} {v_bestMany : Int32} {v_soughtBy : Int32} {v_sought : Int32} {v_soughtAt : Int32} {v_foundMany : Int32} {v_foundOrder : Int32} {v_isKept : Bool} {v_imageRows : Int32} {v_imageColumns : Int32} {v_imageFolded : Int32} {v_imageWronged : Int32} {v_bodies : Int32} {v_ran : Int32} {v_ownKind : Int32} {v_ownNumber : Int32} {v_limit : List Int32} {v_changeWas : List Int32} {v_changeIs : List Int32} {v_row : List Int32} {v_column : List Int32} {v_below : List Int32} {v_face : List Int32} {v_worn : List Int32} {v_lastBend : List Int32} {v_tape : List Int32} {v_text : List Int32} {v_names : List Int32} {v_bends : List Int32} {v_high : List Int32} {v_to : List Int32} {v_pileSize : List Int32} {v_planLine : List Int32} {v_planWay : List Int32} {v_way1 : List Int32} {v_bestWay : List Int32} {v_order1 : List Int32} {v_placeIn : List Int32} {v_bodyKind : List Int32} {v_trace : List Int32} {v_shelf : List Int32} {v_many : List Int32} {v_items : List Int64} {v_carried : List Int64} {r : Bool} (N : Nat)  : ∀ (s0 : Int32) (s1 : Int64) (s2 : Int64) (v_shapeRows : List Int32) (v_shapeColumns : List Int32) (H : Heap) (locs : List Loc) (ls : Array Slot), fX9_isLine_23 N s0 s1 s2 v_shapeRows v_shapeColumns = some r → va_P D mm_cl (wd_X9 cI cL cS cH a v_keptMany v_done v_rowsOf v_columnsOf v_folded v_wronged v_tapeMany v_textMany v_base v_at v_ends v_fault v_opened v_bentMany v_bentWrong v_moreWorn v_planned v_allWrong v_allWorn v_z v_wishedField v_isFound v_bestWrong v_bestWorn v_bestMany v_soughtBy v_sought v_soughtAt v_foundMany v_foundOrder v_isKept v_imageRows v_imageColumns v_imageFolded v_imageWronged v_bodies v_ran v_ownKind v_ownNumber v_limit v_changeWas v_changeIs v_shapeRows v_shapeColumns v_row v_column v_below v_face v_worn v_lastBend v_tape v_text v_names v_bends v_high v_to v_pileSize v_planLine v_planWay v_way1 v_bestWay v_order1 v_placeIn v_bodyKind v_trace v_shelf v_many v_items v_carried) H → va_D A (wd_X9 cI cL cS cH a v_keptMany v_done v_rowsOf v_columnsOf v_folded v_wronged v_tapeMany v_textMany v_base v_at v_ends v_fault v_opened v_bentMany v_bentWrong v_moreWorn v_planned v_allWrong v_allWorn v_z v_wishedField v_isFound v_bestWrong v_bestWorn v_bestMany v_soughtBy v_sought v_soughtAt v_foundMany v_foundOrder v_isKept v_imageRows v_imageColumns v_imageFolded v_imageWronged v_bodies v_ran v_ownKind v_ownNumber v_limit v_changeWas v_changeIs v_shapeRows v_shapeColumns v_row v_column v_below v_face v_worn v_lastBend v_tape v_text v_names v_bends v_high v_to v_pileSize v_planLine v_planWay v_way1 v_bestWay v_order1 v_placeIn v_bodyKind v_trace v_shelf v_many v_items v_carried) → va_S A s.heap H locs → lv_has ls 4 [] → W p l e (mm_rr d) s m args below meth c H locs 0 0 (mm_Z below D A (wd_X9 cI cL cS cH a v_keptMany v_done v_rowsOf v_columnsOf v_folded v_wronged v_tapeMany v_textMany v_base v_at v_ends v_fault v_opened v_bentMany v_bentWrong v_moreWorn v_planned v_allWrong v_allWorn v_z v_wishedField v_isFound v_bestWrong v_bestWorn v_bestMany v_soughtBy v_sought v_soughtAt v_foundMany v_foundOrder v_isKept v_imageRows v_imageColumns v_imageFolded v_imageWronged v_bodies v_ran v_ownKind v_ownNumber v_limit v_changeWas v_changeIs v_shapeRows v_shapeColumns v_row v_column v_below v_face v_worn v_lastBend v_tape v_text v_names v_bends v_high v_to v_pileSize v_planLine v_planWay v_way1 v_bestWay v_order1 v_placeIn v_bodyKind v_trace v_shelf v_many v_items v_carried) (some (.int (mm_b r))) args s) (F0 m 23 ls [.int s0, .long s1, .long s2]) := by
  obtain ⟨hx, hb, hml, hown, hts, hr, hlocks, hK, hSt⟩ := id C0
  intro s0 s1 s2 v_shapeRows v_shapeColumns H locs ls hf hP hD hS hl
  unfold fX9_isLine_23 at hf
  refine lv_iconst (v := 1) hx hb dX9_isLine_23 (by decide) ?_
  refine lv_isub hx hb dX9_isLine_24 ?_
  refine lv_i2l hx hb dX9_isLine_25 rfl ?_
  obtain ⟨r_4, hc_5, hf⟩ := mm_bd1s hf
  refine mm_callS0 (rest := []) C0 lk_X9_111 (ctX9_within (d := d - 1) (by omega) hc_5) (by omega) rfl hl.1 rfl (mm_cat rfl) dX9_isLine_26 hP hD hA hS (fun H locs hP hS => ?_)
  refine W.eq (g2 := F0 m 29 ls [.int (mm_b r_4)]) rfl ?_
  obtain rfl := mm_inj1 hf
  exact mm_zret C0 hP hD hS dX9_isLine_29 rfl

def fX9_isLine (N : Nat) (x1 : Int32) (x2 : Int32) (x3 : Int32) (v_shapeRows : List Int32) (v_shapeColumns : List Int32) : Option (Bool) :=
    if (4 : Int32) ≤ x3 then
    (mm_ck (mm_inb x1 v_shapeRows.length) (fX9_isLine_23 N (mm_ig v_shapeRows x1) (1 : Int64) ((x2).toInt64) v_shapeRows v_shapeColumns))
    else (mm_ck (mm_inb x1 v_shapeColumns.length) (fX9_isLine_23 N (mm_ig v_shapeColumns x1) (1 : Int64) ((x2).toInt64) v_shapeRows v_shapeColumns))

set_option maxHeartbeats 4000000 in
set_option maxRecDepth 100000 in
theorem ctX9_isLine {l : Launch} {D : va_G} {cI cL cS cH : ClassId} {a : Nat → Nat} {x1 : Int32} {x2 : Int32} {x3 : Int32} {v_keptMany : Int32} {v_done : Int32} {v_rowsOf : Int32} {v_columnsOf : Int32} {v_folded : Int32} {v_wronged : Int32} {v_tapeMany : Int32} {v_textMany : Int32} {v_base : Int32} {v_at : Int32} {v_ends : Int32} {v_fault : Int32} {v_opened : Int32} {v_bentMany : Int32} {v_bentWrong : Int32} {v_moreWorn : Int32} {v_planned : Int32} {v_allWrong : Int32} {v_allWorn : Int32} {v_z : Int32} {v_wishedField : Int32} {v_isFound : Bool} {v_bestWrong : Int32} {v_bestWorn : Int32} {v_bestMany : Int32} {v_soughtBy : Int32} {v_sought : Int32} {v_soughtAt : Int32} {v_foundMany : Int32} {v_foundOrder : Int32} {v_isKept : Bool} {v_imageRows : Int32} {v_imageColumns : Int32} {v_imageFolded : Int32} {v_imageWronged : Int32} {v_bodies : Int32} {v_ran : Int32} {v_ownKind : Int32} {v_ownNumber : Int32} {v_limit : List Int32} {v_changeWas : List Int32} {v_changeIs : List Int32} {v_shapeRows : List Int32} {v_shapeColumns : List Int32} {v_row : List Int32} {v_column : List Int32} {v_below : List Int32} {v_face : List Int32} {v_worn : List Int32} {v_lastBend : List Int32} {v_tape : List Int32} {v_text : List Int32} {v_names : List Int32} {v_bends : List Int32} {v_high : List Int32} {v_to : List Int32} {v_pileSize : List Int32} {v_planLine : List Int32} {v_planWay : List Int32} {v_way1 : List Int32} {v_bestWay : List Int32} {v_order1 : List Int32} {v_placeIn : List Int32} {v_bodyKind : List Int32} {v_trace : List Int32} {v_shelf : List Int32} {v_many : List Int32} {v_items : List Int64} {v_carried : List Int64} {r : Bool} {N d : Nat} (hd : 2 ≤ d) (hf : fX9_isLine N x1 x2 x3 v_shapeRows v_shapeColumns = some r) : mm_Ct l yX9_isLine cX9_isLine 4 (some .boolean) d D (mm_T cI cL cS cH) [.ref (a 0), .int x1, .int x2, .int x3] (wd_X9 cI cL cS cH a v_keptMany v_done v_rowsOf v_columnsOf v_folded v_wronged v_tapeMany v_textMany v_base v_at v_ends v_fault v_opened v_bentMany v_bentWrong v_moreWorn v_planned v_allWrong v_allWorn v_z v_wishedField v_isFound v_bestWrong v_bestWorn v_bestMany v_soughtBy v_sought v_soughtAt v_foundMany v_foundOrder v_isKept v_imageRows v_imageColumns v_imageFolded v_imageWronged v_bodies v_ran v_ownKind v_ownNumber v_limit v_changeWas v_changeIs v_shapeRows v_shapeColumns v_row v_column v_below v_face v_worn v_lastBend v_tape v_text v_names v_bends v_high v_to v_pileSize v_planLine v_planWay v_way1 v_bestWay v_order1 v_placeIn v_bodyKind v_trace v_shelf v_many v_items v_carried) (wd_X9 cI cL cS cH a v_keptMany v_done v_rowsOf v_columnsOf v_folded v_wronged v_tapeMany v_textMany v_base v_at v_ends v_fault v_opened v_bentMany v_bentWrong v_moreWorn v_planned v_allWrong v_allWorn v_z v_wishedField v_isFound v_bestWrong v_bestWorn v_bestMany v_soughtBy v_sought v_soughtAt v_foundMany v_foundOrder v_isKept v_imageRows v_imageColumns v_imageFolded v_imageWronged v_bodies v_ran v_ownKind v_ownNumber v_limit v_changeWas v_changeIs v_shapeRows v_shapeColumns v_row v_column v_below v_face v_worn v_lastBend v_tape v_text v_names v_bends v_high v_to v_pileSize v_planLine v_planWay v_way1 v_bestWay v_order1 v_placeIn v_bodyKind v_trace v_shelf v_many v_items v_carried) (some (.int (mm_b r))) := by
  refine mm_of (by decide) (Nat.le_of_ble_eq_true rfl) ?_
  intro p e s m args below meth c A H locs ls C0 hP hD hA hS hl
  have C0 : mm_Cx p s m args meth c RX9 cX9_isLine 4 (some .boolean) D (mm_T cI cL cS cH) A := C0
  obtain ⟨hx, hb, hml, hown, hts, hr, hlocks, hK, hSt⟩ := id C0
  have hl : lv_has ls 4 [(0, .ref (a 0)), (1, .int x1), (2, .int x2), (3, .int x3)] := hl
  unfold fX9_isLine at hf
  refine lv_iload_n hx hb dX9_isLine_0 rfl (lv_at hl 2 rfl) ?_
  refine lv_i2l hx hb dX9_isLine_1 rfl ?_
  refine lv_lconst (v := 1) hx hb dX9_isLine_2 (by decide) ?_
  refine lv_iload_n hx hb dX9_isLine_3 rfl (lv_at hl 3 rfl) ?_
  refine lv_iconst (v := 4) hx hb dX9_isLine_4 (by decide) ?_
  refine lv_icmp_ge (tgt := 17) hx hb dX9_isLine_5 (by decide) (fun c_1 => ?_) (fun c_1 => ?_)
  · have hf := mm_ip hf c_1
    refine lv_aload_n hx hb dX9_isLine_17 rfl (lv_at hl 0 rfl) ?_
    refine mm_get C0 hP iw_X9 0 rfl rfl 7 (by decide) fl_X9_19 rfl dX9_isLine_18 ?_
    refine lv_iload_n hx hb dX9_isLine_21 rfl (lv_at hl 1 rfl) ?_
    obtain ⟨h_2, hf⟩ := mm_cks hf
    refine mm_iald C0 hP 4 rfl h_2 dX9_isLine_22 ?_
    exact tX9_isLine_23 hd C0 hA N  _ _ _ _ _ H locs ls hf hP hD hS (lv_sub hl [] rfl)
  · have hf := mm_in hf c_1
    refine lv_aload_n hx hb dX9_isLine_8 rfl (lv_at hl 0 rfl) ?_
    refine mm_get C0 hP iw_X9 0 rfl rfl 8 (by decide) fl_X9_22 rfl dX9_isLine_9 ?_
    refine lv_iload_n hx hb dX9_isLine_12 rfl (lv_at hl 1 rfl) ?_
    obtain ⟨h_3, hf⟩ := mm_cks hf
    refine mm_iald C0 hP 5 rfl h_3 dX9_isLine_13 ?_
    refine lv_goto (tgt := 23) hx hb dX9_isLine_14 (by decide) ?_
    exact tX9_isLine_23 hd C0 hA N  _ _ _ _ _ H locs ls hf hP hD hS (lv_sub hl [] rfl)

theorem nb_dX9_placeOf_0 : bls_w cX9_placeOf [(0, [29]), (1, [153, 0, 17]), (4, [42]), (5, [180, 0, 28]), (8, [16, 32]), (10, [27]), (11, [104]), (12, [28]), (13, [96]), (14, [46]), (15, [167, 0, 14]), (18, [42])] := bls_of (by decide +kernel)
theorem dX9_placeOf_0 : decode cX9_placeOf 0 = .ok (.iload_n 3, 1) := op_29 nb_dX9_placeOf_0.1
set_option maxRecDepth 100000 in
theorem dX9_placeOf_1 : decode cX9_placeOf 1 = .ok (.ifCond .eq 17, 3) := (op_153 nb_dX9_placeOf_0.2.1).trans rfl
theorem dX9_placeOf_4 : decode cX9_placeOf 4 = .ok (.aload_n 0, 1) := op_42 nb_dX9_placeOf_0.2.2.1
set_option maxRecDepth 100000 in
theorem dX9_placeOf_5 : decode cX9_placeOf 5 = .ok (.getfield 28, 3) := (op_180 nb_dX9_placeOf_0.2.2.2.1).trans rfl
set_option maxRecDepth 100000 in
theorem dX9_placeOf_8 : decode cX9_placeOf 8 = .ok (.bipush 32, 2) := (op_16 nb_dX9_placeOf_0.2.2.2.2.1).trans rfl
theorem dX9_placeOf_10 : decode cX9_placeOf 10 = .ok (.iload_n 1, 1) := op_27 nb_dX9_placeOf_0.2.2.2.2.2.1
theorem dX9_placeOf_11 : decode cX9_placeOf 11 = .ok (.imul, 1) := op_104 nb_dX9_placeOf_0.2.2.2.2.2.2.1
theorem dX9_placeOf_12 : decode cX9_placeOf 12 = .ok (.iload_n 2, 1) := op_28 nb_dX9_placeOf_0.2.2.2.2.2.2.2.1
theorem dX9_placeOf_13 : decode cX9_placeOf 13 = .ok (.iadd, 1) := op_96 nb_dX9_placeOf_0.2.2.2.2.2.2.2.2.1
theorem dX9_placeOf_14 : decode cX9_placeOf 14 = .ok (.iaload, 1) := op_46 nb_dX9_placeOf_0.2.2.2.2.2.2.2.2.2.1
set_option maxRecDepth 100000 in
theorem dX9_placeOf_15 : decode cX9_placeOf 15 = .ok (.goto 14, 3) := (op_167 nb_dX9_placeOf_0.2.2.2.2.2.2.2.2.2.2.1).trans rfl
theorem dX9_placeOf_18 : decode cX9_placeOf 18 = .ok (.aload_n 0, 1) := op_42 nb_dX9_placeOf_0.2.2.2.2.2.2.2.2.2.2.2.1
theorem nb_dX9_placeOf_19 : bls_w cX9_placeOf [(19, [180, 0, 25]), (22, [16, 32]), (24, [27]), (25, [104]), (26, [28]), (27, [96]), (28, [46]), (29, [172])] := bls_of (by decide +kernel)
set_option maxRecDepth 100000 in
theorem dX9_placeOf_19 : decode cX9_placeOf 19 = .ok (.getfield 25, 3) := (op_180 nb_dX9_placeOf_19.1).trans rfl
set_option maxRecDepth 100000 in
theorem dX9_placeOf_22 : decode cX9_placeOf 22 = .ok (.bipush 32, 2) := (op_16 nb_dX9_placeOf_19.2.1).trans rfl
theorem dX9_placeOf_24 : decode cX9_placeOf 24 = .ok (.iload_n 1, 1) := op_27 nb_dX9_placeOf_19.2.2.1
theorem dX9_placeOf_25 : decode cX9_placeOf 25 = .ok (.imul, 1) := op_104 nb_dX9_placeOf_19.2.2.2.1
theorem dX9_placeOf_26 : decode cX9_placeOf 26 = .ok (.iload_n 2, 1) := op_28 nb_dX9_placeOf_19.2.2.2.2.1
theorem dX9_placeOf_27 : decode cX9_placeOf 27 = .ok (.iadd, 1) := op_96 nb_dX9_placeOf_19.2.2.2.2.2.1
theorem dX9_placeOf_28 : decode cX9_placeOf 28 = .ok (.iaload, 1) := op_46 nb_dX9_placeOf_19.2.2.2.2.2.2.1
theorem dX9_placeOf_29 : decode cX9_placeOf 29 = .ok (.ireturn, 1) := op_172 nb_dX9_placeOf_19.2.2.2.2.2.2.2.1
def fX9_placeOf (N : Nat) (x1 : Int32) (x2 : Int32) (x3 : Int32) (v_row : List Int32) (v_column : List Int32) : Option (Int32) :=
    if x3 = 0 then
    (mm_ck (mm_inb (((32 : Int32) * x1) + x2) v_row.length) (some ((mm_ig v_row (((32 : Int32) * x1) + x2)))))
    else (mm_ck (mm_inb (((32 : Int32) * x1) + x2) v_column.length) (some ((mm_ig v_column (((32 : Int32) * x1) + x2)))))

set_option maxHeartbeats 4000000 in
set_option maxRecDepth 100000 in
theorem ctX9_placeOf {l : Launch} {D : va_G} {cI cL cS cH : ClassId} {a : Nat → Nat} {x1 : Int32} {x2 : Int32} {x3 : Int32} {v_keptMany : Int32} {v_done : Int32} {v_rowsOf : Int32} {v_columnsOf : Int32} {v_folded : Int32} {v_wronged : Int32} {v_tapeMany : Int32} {v_textMany : Int32} {v_base : Int32} {v_at : Int32} {v_ends : Int32} {v_fault : Int32} {v_opened : Int32} {v_bentMany : Int32} {v_bentWrong : Int32} {v_moreWorn : Int32} {v_planned : Int32} {v_allWrong : Int32} {v_allWorn : Int32} {v_z : Int32} {v_wishedField : Int32} {v_isFound : Bool} {v_bestWrong : Int32} {v_bestWorn : Int32} {v_bestMany : Int32} {v_soughtBy : Int32} {v_sought : Int32} {v_soughtAt : Int32} {v_foundMany : Int32} {v_foundOrder : Int32} {v_isKept : Bool} {v_imageRows : Int32} {v_imageColumns : Int32} {v_imageFolded : Int32} {v_imageWronged : Int32} {v_bodies : Int32} {v_ran : Int32} {v_ownKind : Int32} {v_ownNumber : Int32} {v_limit : List Int32} {v_changeWas : List Int32} {v_changeIs : List Int32} {v_shapeRows : List Int32} {v_shapeColumns : List Int32} {v_row : List Int32} {v_column : List Int32} {v_below : List Int32} {v_face : List Int32} {v_worn : List Int32} {v_lastBend : List Int32} {v_tape : List Int32} {v_text : List Int32} {v_names : List Int32} {v_bends : List Int32} {v_high : List Int32} {v_to : List Int32} {v_pileSize : List Int32} {v_planLine : List Int32} {v_planWay : List Int32} {v_way1 : List Int32} {v_bestWay : List Int32} {v_order1 : List Int32} {v_placeIn : List Int32} {v_bodyKind : List Int32} {v_trace : List Int32} {v_shelf : List Int32} {v_many : List Int32} {v_items : List Int64} {v_carried : List Int64} {r : Int32} {N d : Nat} (hd : 1 ≤ d) (hf : fX9_placeOf N x1 x2 x3 v_row v_column = some r) : mm_Ct l yX9_placeOf cX9_placeOf 4 (some .int) d D (mm_T cI cL cS cH) [.ref (a 0), .int x1, .int x2, .int x3] (wd_X9 cI cL cS cH a v_keptMany v_done v_rowsOf v_columnsOf v_folded v_wronged v_tapeMany v_textMany v_base v_at v_ends v_fault v_opened v_bentMany v_bentWrong v_moreWorn v_planned v_allWrong v_allWorn v_z v_wishedField v_isFound v_bestWrong v_bestWorn v_bestMany v_soughtBy v_sought v_soughtAt v_foundMany v_foundOrder v_isKept v_imageRows v_imageColumns v_imageFolded v_imageWronged v_bodies v_ran v_ownKind v_ownNumber v_limit v_changeWas v_changeIs v_shapeRows v_shapeColumns v_row v_column v_below v_face v_worn v_lastBend v_tape v_text v_names v_bends v_high v_to v_pileSize v_planLine v_planWay v_way1 v_bestWay v_order1 v_placeIn v_bodyKind v_trace v_shelf v_many v_items v_carried) (wd_X9 cI cL cS cH a v_keptMany v_done v_rowsOf v_columnsOf v_folded v_wronged v_tapeMany v_textMany v_base v_at v_ends v_fault v_opened v_bentMany v_bentWrong v_moreWorn v_planned v_allWrong v_allWorn v_z v_wishedField v_isFound v_bestWrong v_bestWorn v_bestMany v_soughtBy v_sought v_soughtAt v_foundMany v_foundOrder v_isKept v_imageRows v_imageColumns v_imageFolded v_imageWronged v_bodies v_ran v_ownKind v_ownNumber v_limit v_changeWas v_changeIs v_shapeRows v_shapeColumns v_row v_column v_below v_face v_worn v_lastBend v_tape v_text v_names v_bends v_high v_to v_pileSize v_planLine v_planWay v_way1 v_bestWay v_order1 v_placeIn v_bodyKind v_trace v_shelf v_many v_items v_carried) (some (.int r)) := by
  refine mm_of (by decide) (Nat.le_of_ble_eq_true rfl) ?_
  intro p e s m args below meth c A H locs ls C0 hP hD hA hS hl
  have C0 : mm_Cx p s m args meth c RX9 cX9_placeOf 4 (some .int) D (mm_T cI cL cS cH) A := C0
  obtain ⟨hx, hb, hml, hown, hts, hr, hlocks, hK, hSt⟩ := id C0
  have hl : lv_has ls 4 [(0, .ref (a 0)), (1, .int x1), (2, .int x2), (3, .int x3)] := hl
  unfold fX9_placeOf at hf
  refine lv_iload_n hx hb dX9_placeOf_0 rfl (lv_at hl 3 rfl) ?_
  refine lv_if_eq (tgt := 18) hx hb dX9_placeOf_1 (by decide) (fun c_1 => ?_) (fun c_1 => ?_)
  · have hf := mm_ip hf c_1
    refine lv_aload_n hx hb dX9_placeOf_18 rfl (lv_at hl 0 rfl) ?_
    refine mm_get C0 hP iw_X9 0 rfl rfl 9 (by decide) fl_X9_25 rfl dX9_placeOf_19 ?_
    refine lv_bipush (v := 32) hx hb dX9_placeOf_22 (by decide) ?_
    refine lv_iload_n hx hb dX9_placeOf_24 rfl (lv_at hl 1 rfl) ?_
    refine lv_imul hx hb dX9_placeOf_25 ?_
    refine lv_iload_n hx hb dX9_placeOf_26 rfl (lv_at hl 2 rfl) ?_
    refine lv_iadd hx hb dX9_placeOf_27 ?_
    obtain ⟨h_2, hf⟩ := mm_cks hf
    refine mm_iald C0 hP 6 rfl h_2 dX9_placeOf_28 ?_
    obtain rfl := mm_inj1 hf
    exact mm_iret C0 hP hD hS dX9_placeOf_29
  · have hf := mm_in hf c_1
    refine lv_aload_n hx hb dX9_placeOf_4 rfl (lv_at hl 0 rfl) ?_
    refine mm_get C0 hP iw_X9 0 rfl rfl 10 (by decide) fl_X9_28 rfl dX9_placeOf_5 ?_
    refine lv_bipush (v := 32) hx hb dX9_placeOf_8 (by decide) ?_
    refine lv_iload_n hx hb dX9_placeOf_10 rfl (lv_at hl 1 rfl) ?_
    refine lv_imul hx hb dX9_placeOf_11 ?_
    refine lv_iload_n hx hb dX9_placeOf_12 rfl (lv_at hl 2 rfl) ?_
    refine lv_iadd hx hb dX9_placeOf_13 ?_
    obtain ⟨h_3, hf⟩ := mm_cks hf
    refine mm_iald C0 hP 7 rfl h_3 dX9_placeOf_14 ?_
    refine lv_goto (tgt := 29) hx hb dX9_placeOf_15 (by decide) ?_
    obtain rfl := mm_inj1 hf
    exact mm_iret C0 hP hD hS dX9_placeOf_29
end
