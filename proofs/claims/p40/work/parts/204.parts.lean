/-! parts: X5_copy, X5_beginTrial, X5_fields, X5_piles, X5_hasField, X5_hasPile, X5_span, X5_hasLine, X5_spanBehind, X5_neighbour, X5_placeOf, X5_heightAt, X5_highestPile, X5_fieldAt, X5_topAt, X5_isTop, X5_topsTouch, X5_torn, X5_across, X5_along -/
theorem dX5_copy_0 : decode cX5_copy 0 = .ok (.aload_n 0, 1) := by decide +kernel
theorem dX5_copy_1 : decode cX5_copy 1 = .ok (.aload_n 1, 1) := by decide +kernel
theorem dX5_copy_2 : decode cX5_copy 2 = .ok (.getfield 40, 3) := by decide +kernel
theorem dX5_copy_5 : decode cX5_copy 5 = .ok (.putfield 40, 3) := by decide +kernel
theorem dX5_copy_8 : decode cX5_copy 8 = .ok (.aload_n 0, 1) := by decide +kernel
theorem dX5_copy_9 : decode cX5_copy 9 = .ok (.aload_n 1, 1) := by decide +kernel
theorem dX5_copy_10 : decode cX5_copy 10 = .ok (.getfield 44, 3) := by decide +kernel
theorem dX5_copy_13 : decode cX5_copy 13 = .ok (.putfield 44, 3) := by decide +kernel
theorem dX5_copy_16 : decode cX5_copy 16 = .ok (.aload_n 0, 1) := by decide +kernel
theorem dX5_copy_17 : decode cX5_copy 17 = .ok (.aload_n 1, 1) := by decide +kernel
theorem dX5_copy_18 : decode cX5_copy 18 = .ok (.getfield 68, 3) := by decide +kernel
theorem dX5_copy_21 : decode cX5_copy 21 = .ok (.putfield 68, 3) := by decide +kernel
theorem dX5_copy_24 : decode cX5_copy 24 = .ok (.aload_n 0, 1) := by decide +kernel
theorem dX5_copy_25 : decode cX5_copy 25 = .ok (.aload_n 1, 1) := by decide +kernel
theorem dX5_copy_26 : decode cX5_copy 26 = .ok (.getfield 71, 3) := by decide +kernel
theorem dX5_copy_29 : decode cX5_copy 29 = .ok (.putfield 71, 3) := by decide +kernel
theorem dX5_copy_32 : decode cX5_copy 32 = .ok (.aload_n 0, 1) := by decide +kernel
theorem dX5_copy_33 : decode cX5_copy 33 = .ok (.aload_n 1, 1) := by decide +kernel
theorem dX5_copy_34 : decode cX5_copy 34 = .ok (.getfield 59, 3) := by decide +kernel
theorem dX5_copy_37 : decode cX5_copy 37 = .ok (.putfield 59, 3) := by decide +kernel
theorem dX5_copy_40 : decode cX5_copy 40 = .ok (.aload_n 0, 1) := by decide +kernel
theorem dX5_copy_41 : decode cX5_copy 41 = .ok (.aload_n 1, 1) := by decide +kernel
theorem dX5_copy_42 : decode cX5_copy 42 = .ok (.getfield 62, 3) := by decide +kernel
theorem dX5_copy_45 : decode cX5_copy 45 = .ok (.putfield 62, 3) := by decide +kernel
theorem dX5_copy_48 : decode cX5_copy 48 = .ok (.aload_n 0, 1) := by decide +kernel
theorem dX5_copy_49 : decode cX5_copy 49 = .ok (.aload_n 1, 1) := by decide +kernel
theorem dX5_copy_50 : decode cX5_copy 50 = .ok (.getfield 65, 3) := by decide +kernel
theorem dX5_copy_53 : decode cX5_copy 53 = .ok (.putfield 65, 3) := by decide +kernel
theorem dX5_copy_56 : decode cX5_copy 56 = .ok (.aload_n 1, 1) := by decide +kernel
theorem dX5_copy_57 : decode cX5_copy 57 = .ok (.getfield 9, 3) := by decide +kernel
theorem dX5_copy_60 : decode cX5_copy 60 = .ok (.iconst 0, 1) := by decide +kernel
theorem dX5_copy_61 : decode cX5_copy 61 = .ok (.aload_n 0, 1) := by decide +kernel
theorem dX5_copy_62 : decode cX5_copy 62 = .ok (.getfield 9, 3) := by decide +kernel
theorem dX5_copy_65 : decode cX5_copy 65 = .ok (.iconst 0, 1) := by decide +kernel
theorem dX5_copy_66 : decode cX5_copy 66 = .ok (.bipush 32, 2) := by decide +kernel
theorem dX5_copy_68 : decode cX5_copy 68 = .ok (.invokestatic 74, 3) := by decide +kernel
theorem dX5_copy_71 : decode cX5_copy 71 = .ok (.aload_n 1, 1) := by decide +kernel
theorem dX5_copy_72 : decode cX5_copy 72 = .ok (.getfield 15, 3) := by decide +kernel
theorem dX5_copy_75 : decode cX5_copy 75 = .ok (.iconst 0, 1) := by decide +kernel
theorem dX5_copy_76 : decode cX5_copy 76 = .ok (.aload_n 0, 1) := by decide +kernel
theorem dX5_copy_77 : decode cX5_copy 77 = .ok (.getfield 15, 3) := by decide +kernel
theorem dX5_copy_80 : decode cX5_copy 80 = .ok (.iconst 0, 1) := by decide +kernel
theorem dX5_copy_81 : decode cX5_copy 81 = .ok (.bipush 32, 2) := by decide +kernel
theorem dX5_copy_83 : decode cX5_copy 83 = .ok (.invokestatic 74, 3) := by decide +kernel
theorem dX5_copy_86 : decode cX5_copy 86 = .ok (.aload_n 1, 1) := by decide +kernel
theorem dX5_copy_87 : decode cX5_copy 87 = .ok (.getfield 18, 3) := by decide +kernel
theorem dX5_copy_90 : decode cX5_copy 90 = .ok (.iconst 0, 1) := by decide +kernel
theorem dX5_copy_91 : decode cX5_copy 91 = .ok (.aload_n 0, 1) := by decide +kernel
theorem dX5_copy_92 : decode cX5_copy 92 = .ok (.getfield 18, 3) := by decide +kernel
theorem dX5_copy_95 : decode cX5_copy 95 = .ok (.iconst 0, 1) := by decide +kernel
theorem dX5_copy_96 : decode cX5_copy 96 = .ok (.bipush 32, 2) := by decide +kernel
theorem dX5_copy_98 : decode cX5_copy 98 = .ok (.invokestatic 74, 3) := by decide +kernel
theorem dX5_copy_101 : decode cX5_copy 101 = .ok (.aload_n 1, 1) := by decide +kernel
theorem dX5_copy_102 : decode cX5_copy 102 = .ok (.getfield 21, 3) := by decide +kernel
theorem dX5_copy_105 : decode cX5_copy 105 = .ok (.iconst 0, 1) := by decide +kernel
theorem dX5_copy_106 : decode cX5_copy 106 = .ok (.aload_n 0, 1) := by decide +kernel
theorem dX5_copy_107 : decode cX5_copy 107 = .ok (.getfield 21, 3) := by decide +kernel
theorem dX5_copy_110 : decode cX5_copy 110 = .ok (.iconst 0, 1) := by decide +kernel
theorem dX5_copy_111 : decode cX5_copy 111 = .ok (.bipush 32, 2) := by decide +kernel
theorem dX5_copy_113 : decode cX5_copy 113 = .ok (.invokestatic 74, 3) := by decide +kernel
theorem dX5_copy_116 : decode cX5_copy 116 = .ok (.aload_n 1, 1) := by decide +kernel
theorem dX5_copy_117 : decode cX5_copy 117 = .ok (.getfield 24, 3) := by decide +kernel
theorem dX5_copy_120 : decode cX5_copy 120 = .ok (.iconst 0, 1) := by decide +kernel
theorem dX5_copy_121 : decode cX5_copy 121 = .ok (.aload_n 0, 1) := by decide +kernel
theorem dX5_copy_122 : decode cX5_copy 122 = .ok (.getfield 24, 3) := by decide +kernel
theorem dX5_copy_125 : decode cX5_copy 125 = .ok (.iconst 0, 1) := by decide +kernel
theorem dX5_copy_126 : decode cX5_copy 126 = .ok (.bipush 64, 2) := by decide +kernel
theorem dX5_copy_128 : decode cX5_copy 128 = .ok (.invokestatic 74, 3) := by decide +kernel
theorem dX5_copy_131 : decode cX5_copy 131 = .ok (.aload_n 1, 1) := by decide +kernel
theorem dX5_copy_132 : decode cX5_copy 132 = .ok (.getfield 27, 3) := by decide +kernel
theorem dX5_copy_135 : decode cX5_copy 135 = .ok (.iconst 0, 1) := by decide +kernel
theorem dX5_copy_136 : decode cX5_copy 136 = .ok (.aload_n 0, 1) := by decide +kernel
theorem dX5_copy_137 : decode cX5_copy 137 = .ok (.getfield 27, 3) := by decide +kernel
theorem dX5_copy_140 : decode cX5_copy 140 = .ok (.iconst 0, 1) := by decide +kernel
theorem dX5_copy_141 : decode cX5_copy 141 = .ok (.bipush 64, 2) := by decide +kernel
theorem dX5_copy_143 : decode cX5_copy 143 = .ok (.invokestatic 74, 3) := by decide +kernel
theorem dX5_copy_146 : decode cX5_copy 146 = .ok (.return_, 1) := by decide +kernel
def fX5_copy (N : Nat) (v_rows : Int32) (v_cols : Int32) (v_high : Int32) (v_wide : Int32) (v_folds : Int32) (v_wrong : Int32) (v_more : Int32) (v_rowOf : List Int32) (v_colOf : List Int32) (v_below : List Int32) (v_face : List Int32) (v_worn : List Int32) (v_last : List Int32) (p1_rows : Int32) (p1_cols : Int32) (p1_high : Int32) (p1_wide : Int32) (p1_folds : Int32) (p1_wrong : Int32) (p1_more : Int32) (p1_rowOf : List Int32) (p1_colOf : List Int32) (p1_below : List Int32) (p1_face : List Int32) (p1_worn : List Int32) (p1_last : List Int32) : Option (Int32 × Int32 × Int32 × Int32 × Int32 × Int32 × Int32 × List Int32 × List Int32 × List Int32 × List Int32 × List Int32 × List Int32) :=
    mm_ck (mm_cok (0 : Int32) (0 : Int32) (32 : Int32) p1_rowOf.length v_rowOf.length) (mm_nm (mm_cp p1_rowOf v_rowOf (0 : Int32) (0 : Int32) (32 : Int32)) (fun (l_2 : List Int32) =>
    mm_ck (mm_cok (0 : Int32) (0 : Int32) (32 : Int32) p1_colOf.length v_colOf.length) (mm_nm (mm_cp p1_colOf v_colOf (0 : Int32) (0 : Int32) (32 : Int32)) (fun (l_4 : List Int32) =>
    mm_ck (mm_cok (0 : Int32) (0 : Int32) (32 : Int32) p1_below.length v_below.length) (mm_nm (mm_cp p1_below v_below (0 : Int32) (0 : Int32) (32 : Int32)) (fun (l_6 : List Int32) =>
    mm_ck (mm_cok (0 : Int32) (0 : Int32) (32 : Int32) p1_face.length v_face.length) (mm_nm (mm_cp p1_face v_face (0 : Int32) (0 : Int32) (32 : Int32)) (fun (l_8 : List Int32) =>
    mm_ck (mm_cok (0 : Int32) (0 : Int32) (64 : Int32) p1_worn.length v_worn.length) (mm_nm (mm_cp p1_worn v_worn (0 : Int32) (0 : Int32) (64 : Int32)) (fun (l_10 : List Int32) =>
    mm_ck (mm_cok (0 : Int32) (0 : Int32) (64 : Int32) p1_last.length v_last.length) (mm_nm (mm_cp p1_last v_last (0 : Int32) (0 : Int32) (64 : Int32)) (fun (l_12 : List Int32) =>
    some (p1_rows, p1_cols, p1_high, p1_wide, p1_folds, p1_wrong, p1_more, l_2, l_4, l_6, l_8, l_10, l_12)))))))))))))

set_option maxHeartbeats 4000000 in
set_option maxRecDepth 100000 in
theorem ctX5_copy {l : Launch} {D : va_G} {cI cL cS cH : ClassId} {a : Nat → Nat}  {v_rows : Int32} {v_cols : Int32} {v_high : Int32} {v_wide : Int32} {v_folds : Int32} {v_wrong : Int32} {v_more : Int32} {v_rowOf : List Int32} {v_colOf : List Int32} {v_below : List Int32} {v_face : List Int32} {v_worn : List Int32} {v_last : List Int32} {v_bend : List Int32} {v_tall : List Int32} {p1_rows : Int32} {p1_cols : Int32} {p1_high : Int32} {p1_wide : Int32} {p1_folds : Int32} {p1_wrong : Int32} {p1_more : Int32} {p1_rowOf : List Int32} {p1_colOf : List Int32} {p1_below : List Int32} {p1_face : List Int32} {p1_worn : List Int32} {p1_last : List Int32} {p1_bend : List Int32} {p1_tall : List Int32} {w_rows : Int32} {w_cols : Int32} {w_high : Int32} {w_wide : Int32} {w_folds : Int32} {w_wrong : Int32} {w_more : Int32} {w_rowOf : List Int32} {w_colOf : List Int32} {w_below : List Int32} {w_face : List Int32} {w_worn : List Int32} {w_last : List Int32} {N d : Nat} (hd : 1 ≤ d) (hf : fX5_copy N v_rows v_cols v_high v_wide v_folds v_wrong v_more v_rowOf v_colOf v_below v_face v_worn v_last p1_rows p1_cols p1_high p1_wide p1_folds p1_wrong p1_more p1_rowOf p1_colOf p1_below p1_face p1_worn p1_last = some (w_rows, w_cols, w_high, w_wide, w_folds, w_wrong, w_more, w_rowOf, w_colOf, w_below, w_face, w_worn, w_last)) : mm_Ct l yX5_copy cX5_copy 2 none d D (mm_T cI cL cS cH) [.ref (a 0), .ref (a 9)] (wd_X5 cI cL cS cH a v_rows v_cols v_high v_wide v_folds v_wrong v_more v_rowOf v_colOf v_below v_face v_worn v_last v_bend v_tall ++ wd_X5 cI cL cS cH (fun k => a (k + 9)) p1_rows p1_cols p1_high p1_wide p1_folds p1_wrong p1_more p1_rowOf p1_colOf p1_below p1_face p1_worn p1_last p1_bend p1_tall) (wd_X5 cI cL cS cH a w_rows w_cols w_high w_wide w_folds w_wrong w_more w_rowOf w_colOf w_below w_face w_worn w_last v_bend v_tall ++ wd_X5 cI cL cS cH (fun k => a (k + 9)) p1_rows p1_cols p1_high p1_wide p1_folds p1_wrong p1_more p1_rowOf p1_colOf p1_below p1_face p1_worn p1_last p1_bend p1_tall) none := by
  refine mm_of (by decide) (Nat.le_of_ble_eq_true rfl) ?_
  intro p e s m args below meth c A H locs ls C0 hP hD hA hS hl
  have C0 : mm_Cx p s m args meth c RX5 cX5_copy 2 none D (mm_T cI cL cS cH) A := C0
  obtain ⟨hx, hb, hml, hown, hts, hr, hlocks, hK, hSt⟩ := id C0
  have hl : lv_has ls 2 [(0, .ref (a 0)), (1, .ref (a 9))] := hl
  unfold fX5_copy at hf
  refine lv_aload_n hx hb dX5_copy_0 rfl (lv_at hl 0 rfl) ?_
  refine lv_aload_n hx hb dX5_copy_1 rfl (lv_at hl 1 rfl) ?_
  refine mm_get C0 hP iw_X5 9 rfl rfl 0 (by decide) fl_X5_40 rfl dX5_copy_2 ?_
  refine mm_put C0 hP hD hS iw_X5 tyX5 tyX5_ok nmX5 0 rfl rfl 0 (by decide) fl_X5_40 rfl rfl rfl (Nat.le_of_ble_eq_true rfl) dX5_copy_5 (w2 := (wd_X5 cI cL cS cH a p1_rows v_cols v_high v_wide v_folds v_wrong v_more v_rowOf v_colOf v_below v_face v_worn v_last v_bend v_tall ++ wd_X5 cI cL cS cH (fun k => a (k + 9)) p1_rows p1_cols p1_high p1_wide p1_folds p1_wrong p1_more p1_rowOf p1_colOf p1_below p1_face p1_worn p1_last p1_bend p1_tall)) rfl (fun H locs hP hD hS => ?_)
  refine lv_aload_n hx hb dX5_copy_8 rfl (lv_at hl 0 rfl) ?_
  refine lv_aload_n hx hb dX5_copy_9 rfl (lv_at hl 1 rfl) ?_
  refine mm_get C0 hP iw_X5 9 rfl rfl 1 (by decide) fl_X5_44 rfl dX5_copy_10 ?_
  refine mm_put C0 hP hD hS iw_X5 tyX5 tyX5_ok nmX5 0 rfl rfl 1 (by decide) fl_X5_44 rfl rfl rfl (Nat.le_of_ble_eq_true rfl) dX5_copy_13 (w2 := (wd_X5 cI cL cS cH a p1_rows p1_cols v_high v_wide v_folds v_wrong v_more v_rowOf v_colOf v_below v_face v_worn v_last v_bend v_tall ++ wd_X5 cI cL cS cH (fun k => a (k + 9)) p1_rows p1_cols p1_high p1_wide p1_folds p1_wrong p1_more p1_rowOf p1_colOf p1_below p1_face p1_worn p1_last p1_bend p1_tall)) rfl (fun H locs hP hD hS => ?_)
  refine lv_aload_n hx hb dX5_copy_16 rfl (lv_at hl 0 rfl) ?_
  refine lv_aload_n hx hb dX5_copy_17 rfl (lv_at hl 1 rfl) ?_
  refine mm_get C0 hP iw_X5 9 rfl rfl 2 (by decide) fl_X5_68 rfl dX5_copy_18 ?_
  refine mm_put C0 hP hD hS iw_X5 tyX5 tyX5_ok nmX5 0 rfl rfl 2 (by decide) fl_X5_68 rfl rfl rfl (Nat.le_of_ble_eq_true rfl) dX5_copy_21 (w2 := (wd_X5 cI cL cS cH a p1_rows p1_cols p1_high v_wide v_folds v_wrong v_more v_rowOf v_colOf v_below v_face v_worn v_last v_bend v_tall ++ wd_X5 cI cL cS cH (fun k => a (k + 9)) p1_rows p1_cols p1_high p1_wide p1_folds p1_wrong p1_more p1_rowOf p1_colOf p1_below p1_face p1_worn p1_last p1_bend p1_tall)) rfl (fun H locs hP hD hS => ?_)
  refine lv_aload_n hx hb dX5_copy_24 rfl (lv_at hl 0 rfl) ?_
  refine lv_aload_n hx hb dX5_copy_25 rfl (lv_at hl 1 rfl) ?_
  refine mm_get C0 hP iw_X5 9 rfl rfl 3 (by decide) fl_X5_71 rfl dX5_copy_26 ?_
  refine mm_put C0 hP hD hS iw_X5 tyX5 tyX5_ok nmX5 0 rfl rfl 3 (by decide) fl_X5_71 rfl rfl rfl (Nat.le_of_ble_eq_true rfl) dX5_copy_29 (w2 := (wd_X5 cI cL cS cH a p1_rows p1_cols p1_high p1_wide v_folds v_wrong v_more v_rowOf v_colOf v_below v_face v_worn v_last v_bend v_tall ++ wd_X5 cI cL cS cH (fun k => a (k + 9)) p1_rows p1_cols p1_high p1_wide p1_folds p1_wrong p1_more p1_rowOf p1_colOf p1_below p1_face p1_worn p1_last p1_bend p1_tall)) rfl (fun H locs hP hD hS => ?_)
  refine lv_aload_n hx hb dX5_copy_32 rfl (lv_at hl 0 rfl) ?_
  refine lv_aload_n hx hb dX5_copy_33 rfl (lv_at hl 1 rfl) ?_
  refine mm_get C0 hP iw_X5 9 rfl rfl 4 (by decide) fl_X5_59 rfl dX5_copy_34 ?_
  refine mm_put C0 hP hD hS iw_X5 tyX5 tyX5_ok nmX5 0 rfl rfl 4 (by decide) fl_X5_59 rfl rfl rfl (Nat.le_of_ble_eq_true rfl) dX5_copy_37 (w2 := (wd_X5 cI cL cS cH a p1_rows p1_cols p1_high p1_wide p1_folds v_wrong v_more v_rowOf v_colOf v_below v_face v_worn v_last v_bend v_tall ++ wd_X5 cI cL cS cH (fun k => a (k + 9)) p1_rows p1_cols p1_high p1_wide p1_folds p1_wrong p1_more p1_rowOf p1_colOf p1_below p1_face p1_worn p1_last p1_bend p1_tall)) rfl (fun H locs hP hD hS => ?_)
  refine lv_aload_n hx hb dX5_copy_40 rfl (lv_at hl 0 rfl) ?_
  refine lv_aload_n hx hb dX5_copy_41 rfl (lv_at hl 1 rfl) ?_
  refine mm_get C0 hP iw_X5 9 rfl rfl 5 (by decide) fl_X5_62 rfl dX5_copy_42 ?_
  refine mm_put C0 hP hD hS iw_X5 tyX5 tyX5_ok nmX5 0 rfl rfl 5 (by decide) fl_X5_62 rfl rfl rfl (Nat.le_of_ble_eq_true rfl) dX5_copy_45 (w2 := (wd_X5 cI cL cS cH a p1_rows p1_cols p1_high p1_wide p1_folds p1_wrong v_more v_rowOf v_colOf v_below v_face v_worn v_last v_bend v_tall ++ wd_X5 cI cL cS cH (fun k => a (k + 9)) p1_rows p1_cols p1_high p1_wide p1_folds p1_wrong p1_more p1_rowOf p1_colOf p1_below p1_face p1_worn p1_last p1_bend p1_tall)) rfl (fun H locs hP hD hS => ?_)
  refine lv_aload_n hx hb dX5_copy_48 rfl (lv_at hl 0 rfl) ?_
  refine lv_aload_n hx hb dX5_copy_49 rfl (lv_at hl 1 rfl) ?_
  refine mm_get C0 hP iw_X5 9 rfl rfl 6 (by decide) fl_X5_65 rfl dX5_copy_50 ?_
  refine mm_put C0 hP hD hS iw_X5 tyX5 tyX5_ok nmX5 0 rfl rfl 6 (by decide) fl_X5_65 rfl rfl rfl (Nat.le_of_ble_eq_true rfl) dX5_copy_53 (w2 := (wd_X5 cI cL cS cH a p1_rows p1_cols p1_high p1_wide p1_folds p1_wrong p1_more v_rowOf v_colOf v_below v_face v_worn v_last v_bend v_tall ++ wd_X5 cI cL cS cH (fun k => a (k + 9)) p1_rows p1_cols p1_high p1_wide p1_folds p1_wrong p1_more p1_rowOf p1_colOf p1_below p1_face p1_worn p1_last p1_bend p1_tall)) rfl (fun H locs hP hD hS => ?_)
  refine lv_aload_n hx hb dX5_copy_56 rfl (lv_at hl 1 rfl) ?_
  refine mm_get C0 hP iw_X5 9 rfl rfl 7 (by decide) fl_X5_9 rfl dX5_copy_57 ?_
  refine lv_iconst (v := 0) hx hb dX5_copy_60 (by decide) ?_
  refine lv_aload_n hx hb dX5_copy_61 rfl (lv_at hl 0 rfl) ?_
  refine mm_get C0 hP iw_X5 0 rfl rfl 7 (by decide) fl_X5_9 rfl dX5_copy_62 ?_
  refine lv_iconst (v := 0) hx hb dX5_copy_65 (by decide) ?_
  refine lv_bipush (v := 32) hx hb dX5_copy_66 (by decide) ?_
  obtain ⟨h_1, hf⟩ := mm_cks hf
  refine mm_copyi C0 la_X5_74 hP hD hS 10 1 rfl rfl h_1 hl.1 (by omega) (mm_cat rfl) dX5_copy_68 (w2 := (wd_X5 cI cL cS cH a p1_rows p1_cols p1_high p1_wide p1_folds p1_wrong p1_more (mm_cp p1_rowOf v_rowOf (0 : Int32) (0 : Int32) (32 : Int32)) v_colOf v_below v_face v_worn v_last v_bend v_tall ++ wd_X5 cI cL cS cH (fun k => a (k + 9)) p1_rows p1_cols p1_high p1_wide p1_folds p1_wrong p1_more p1_rowOf p1_colOf p1_below p1_face p1_worn p1_last p1_bend p1_tall)) rfl (fun H locs hP hD hS => ?_)
  generalize el_2 : (mm_cp p1_rowOf v_rowOf (0 : Int32) (0 : Int32) (32 : Int32)) = l_2 at hP hD
  have hf := mm_nms hf el_2.symm
  refine lv_aload_n hx hb dX5_copy_71 rfl (lv_at hl 1 rfl) ?_
  refine mm_get C0 hP iw_X5 9 rfl rfl 8 (by decide) fl_X5_15 rfl dX5_copy_72 ?_
  refine lv_iconst (v := 0) hx hb dX5_copy_75 (by decide) ?_
  refine lv_aload_n hx hb dX5_copy_76 rfl (lv_at hl 0 rfl) ?_
  refine mm_get C0 hP iw_X5 0 rfl rfl 8 (by decide) fl_X5_15 rfl dX5_copy_77 ?_
  refine lv_iconst (v := 0) hx hb dX5_copy_80 (by decide) ?_
  refine lv_bipush (v := 32) hx hb dX5_copy_81 (by decide) ?_
  obtain ⟨h_3, hf⟩ := mm_cks hf
  refine mm_copyi C0 la_X5_74 hP hD hS 11 2 rfl rfl h_3 hl.1 (by omega) (mm_cat rfl) dX5_copy_83 (w2 := (wd_X5 cI cL cS cH a p1_rows p1_cols p1_high p1_wide p1_folds p1_wrong p1_more l_2 (mm_cp p1_colOf v_colOf (0 : Int32) (0 : Int32) (32 : Int32)) v_below v_face v_worn v_last v_bend v_tall ++ wd_X5 cI cL cS cH (fun k => a (k + 9)) p1_rows p1_cols p1_high p1_wide p1_folds p1_wrong p1_more p1_rowOf p1_colOf p1_below p1_face p1_worn p1_last p1_bend p1_tall)) rfl (fun H locs hP hD hS => ?_)
  generalize el_4 : (mm_cp p1_colOf v_colOf (0 : Int32) (0 : Int32) (32 : Int32)) = l_4 at hP hD
  have hf := mm_nms hf el_4.symm
  refine lv_aload_n hx hb dX5_copy_86 rfl (lv_at hl 1 rfl) ?_
  refine mm_get C0 hP iw_X5 9 rfl rfl 9 (by decide) fl_X5_18 rfl dX5_copy_87 ?_
  refine lv_iconst (v := 0) hx hb dX5_copy_90 (by decide) ?_
  refine lv_aload_n hx hb dX5_copy_91 rfl (lv_at hl 0 rfl) ?_
  refine mm_get C0 hP iw_X5 0 rfl rfl 9 (by decide) fl_X5_18 rfl dX5_copy_92 ?_
  refine lv_iconst (v := 0) hx hb dX5_copy_95 (by decide) ?_
  refine lv_bipush (v := 32) hx hb dX5_copy_96 (by decide) ?_
  obtain ⟨h_5, hf⟩ := mm_cks hf
  refine mm_copyi C0 la_X5_74 hP hD hS 12 3 rfl rfl h_5 hl.1 (by omega) (mm_cat rfl) dX5_copy_98 (w2 := (wd_X5 cI cL cS cH a p1_rows p1_cols p1_high p1_wide p1_folds p1_wrong p1_more l_2 l_4 (mm_cp p1_below v_below (0 : Int32) (0 : Int32) (32 : Int32)) v_face v_worn v_last v_bend v_tall ++ wd_X5 cI cL cS cH (fun k => a (k + 9)) p1_rows p1_cols p1_high p1_wide p1_folds p1_wrong p1_more p1_rowOf p1_colOf p1_below p1_face p1_worn p1_last p1_bend p1_tall)) rfl (fun H locs hP hD hS => ?_)
  generalize el_6 : (mm_cp p1_below v_below (0 : Int32) (0 : Int32) (32 : Int32)) = l_6 at hP hD
  have hf := mm_nms hf el_6.symm
  refine lv_aload_n hx hb dX5_copy_101 rfl (lv_at hl 1 rfl) ?_
  refine mm_get C0 hP iw_X5 9 rfl rfl 10 (by decide) fl_X5_21 rfl dX5_copy_102 ?_
  refine lv_iconst (v := 0) hx hb dX5_copy_105 (by decide) ?_
  refine lv_aload_n hx hb dX5_copy_106 rfl (lv_at hl 0 rfl) ?_
  refine mm_get C0 hP iw_X5 0 rfl rfl 10 (by decide) fl_X5_21 rfl dX5_copy_107 ?_
  refine lv_iconst (v := 0) hx hb dX5_copy_110 (by decide) ?_
  refine lv_bipush (v := 32) hx hb dX5_copy_111 (by decide) ?_
  obtain ⟨h_7, hf⟩ := mm_cks hf
  refine mm_copyi C0 la_X5_74 hP hD hS 13 4 rfl rfl h_7 hl.1 (by omega) (mm_cat rfl) dX5_copy_113 (w2 := (wd_X5 cI cL cS cH a p1_rows p1_cols p1_high p1_wide p1_folds p1_wrong p1_more l_2 l_4 l_6 (mm_cp p1_face v_face (0 : Int32) (0 : Int32) (32 : Int32)) v_worn v_last v_bend v_tall ++ wd_X5 cI cL cS cH (fun k => a (k + 9)) p1_rows p1_cols p1_high p1_wide p1_folds p1_wrong p1_more p1_rowOf p1_colOf p1_below p1_face p1_worn p1_last p1_bend p1_tall)) rfl (fun H locs hP hD hS => ?_)
  generalize el_8 : (mm_cp p1_face v_face (0 : Int32) (0 : Int32) (32 : Int32)) = l_8 at hP hD
  have hf := mm_nms hf el_8.symm
  refine lv_aload_n hx hb dX5_copy_116 rfl (lv_at hl 1 rfl) ?_
  refine mm_get C0 hP iw_X5 9 rfl rfl 11 (by decide) fl_X5_24 rfl dX5_copy_117 ?_
  refine lv_iconst (v := 0) hx hb dX5_copy_120 (by decide) ?_
  refine lv_aload_n hx hb dX5_copy_121 rfl (lv_at hl 0 rfl) ?_
  refine mm_get C0 hP iw_X5 0 rfl rfl 11 (by decide) fl_X5_24 rfl dX5_copy_122 ?_
  refine lv_iconst (v := 0) hx hb dX5_copy_125 (by decide) ?_
  refine lv_bipush (v := 64) hx hb dX5_copy_126 (by decide) ?_
  obtain ⟨h_9, hf⟩ := mm_cks hf
  refine mm_copyi C0 la_X5_74 hP hD hS 14 5 rfl rfl h_9 hl.1 (by omega) (mm_cat rfl) dX5_copy_128 (w2 := (wd_X5 cI cL cS cH a p1_rows p1_cols p1_high p1_wide p1_folds p1_wrong p1_more l_2 l_4 l_6 l_8 (mm_cp p1_worn v_worn (0 : Int32) (0 : Int32) (64 : Int32)) v_last v_bend v_tall ++ wd_X5 cI cL cS cH (fun k => a (k + 9)) p1_rows p1_cols p1_high p1_wide p1_folds p1_wrong p1_more p1_rowOf p1_colOf p1_below p1_face p1_worn p1_last p1_bend p1_tall)) rfl (fun H locs hP hD hS => ?_)
  generalize el_10 : (mm_cp p1_worn v_worn (0 : Int32) (0 : Int32) (64 : Int32)) = l_10 at hP hD
  have hf := mm_nms hf el_10.symm
  refine lv_aload_n hx hb dX5_copy_131 rfl (lv_at hl 1 rfl) ?_
  refine mm_get C0 hP iw_X5 9 rfl rfl 12 (by decide) fl_X5_27 rfl dX5_copy_132 ?_
  refine lv_iconst (v := 0) hx hb dX5_copy_135 (by decide) ?_
  refine lv_aload_n hx hb dX5_copy_136 rfl (lv_at hl 0 rfl) ?_
  refine mm_get C0 hP iw_X5 0 rfl rfl 12 (by decide) fl_X5_27 rfl dX5_copy_137 ?_
  refine lv_iconst (v := 0) hx hb dX5_copy_140 (by decide) ?_
  refine lv_bipush (v := 64) hx hb dX5_copy_141 (by decide) ?_
  obtain ⟨h_11, hf⟩ := mm_cks hf
  refine mm_copyi C0 la_X5_74 hP hD hS 15 6 rfl rfl h_11 hl.1 (by omega) (mm_cat rfl) dX5_copy_143 (w2 := (wd_X5 cI cL cS cH a p1_rows p1_cols p1_high p1_wide p1_folds p1_wrong p1_more l_2 l_4 l_6 l_8 l_10 (mm_cp p1_last v_last (0 : Int32) (0 : Int32) (64 : Int32)) v_bend v_tall ++ wd_X5 cI cL cS cH (fun k => a (k + 9)) p1_rows p1_cols p1_high p1_wide p1_folds p1_wrong p1_more p1_rowOf p1_colOf p1_below p1_face p1_worn p1_last p1_bend p1_tall)) rfl (fun H locs hP hD hS => ?_)
  generalize el_12 : (mm_cp p1_last v_last (0 : Int32) (0 : Int32) (64 : Int32)) = l_12 at hP hD
  have hf := mm_nms hf el_12.symm
  apply mm_sub13 hf
  exact mm_vret C0 hP hD hS dX5_copy_146

theorem dX5_beginTrial_0 : decode cX5_beginTrial 0 = .ok (.aload_n 0, 1) := by decide +kernel
theorem dX5_beginTrial_1 : decode cX5_beginTrial 1 = .ok (.aload_n 1, 1) := by decide +kernel
theorem dX5_beginTrial_2 : decode cX5_beginTrial 2 = .ok (.invokevirtual 80, 3) := by decide +kernel
theorem dX5_beginTrial_5 : decode cX5_beginTrial 5 = .ok (.aload_n 0, 1) := by decide +kernel
theorem dX5_beginTrial_6 : decode cX5_beginTrial 6 = .ok (.invokevirtual 53, 3) := by decide +kernel
theorem dX5_beginTrial_9 : decode cX5_beginTrial 9 = .ok (.aload_n 0, 1) := by decide +kernel
theorem dX5_beginTrial_10 : decode cX5_beginTrial 10 = .ok (.invokevirtual 56, 3) := by decide +kernel
theorem dX5_beginTrial_13 : decode cX5_beginTrial 13 = .ok (.return_, 1) := by decide +kernel
def fX5_beginTrial (N : Nat) (v_rows : Int32) (v_cols : Int32) (v_high : Int32) (v_wide : Int32) (v_folds : Int32) (v_wrong : Int32) (v_more : Int32) (v_rowOf : List Int32) (v_colOf : List Int32) (v_below : List Int32) (v_face : List Int32) (v_worn : List Int32) (v_last : List Int32) (p1_rows : Int32) (p1_cols : Int32) (p1_high : Int32) (p1_wide : Int32) (p1_folds : Int32) (p1_wrong : Int32) (p1_more : Int32) (p1_rowOf : List Int32) (p1_colOf : List Int32) (p1_below : List Int32) (p1_face : List Int32) (p1_worn : List Int32) (p1_last : List Int32) : Option (Int32 × Int32 × Int32 × Int32 × Int32 × Int32 × Int32 × List Int32 × List Int32 × List Int32 × List Int32 × List Int32 × List Int32) :=
    mm_bd13 (fX5_copy N v_rows v_cols v_high v_wide v_folds v_wrong v_more v_rowOf v_colOf v_below v_face v_worn v_last p1_rows p1_cols p1_high p1_wide p1_folds p1_wrong p1_more p1_rowOf p1_colOf p1_below p1_face p1_worn p1_last) (fun (w_1 : Int32) (w_2 : Int32) (w_3 : Int32) (w_4 : Int32) (w_5 : Int32) (w_6 : Int32) (w_7 : Int32) (w_8 : List Int32) (w_9 : List Int32) (w_10 : List Int32) (w_11 : List Int32) (w_12 : List Int32) (w_13 : List Int32) =>
    mm_bd3 (fX5_forgetLed N w_5 w_6 w_7) (fun (w_15 : Int32) (w_16 : Int32) (w_17 : Int32) =>
    mm_bd6 (fX5_layOut N w_1 w_2 w_3 w_4 w_8 w_9 w_10 w_11) (fun (w_19 : Int32) (w_20 : Int32) (w_21 : List Int32) (w_22 : List Int32) (w_23 : List Int32) (w_24 : List Int32) =>
    some (w_1, w_2, w_19, w_20, w_15, w_16, w_17, w_21, w_22, w_23, w_24, w_12, w_13))))

set_option maxHeartbeats 4000000 in
set_option maxRecDepth 100000 in
theorem ctX5_beginTrial {l : Launch} {D : va_G} {cI cL cS cH : ClassId} {a : Nat → Nat}  {v_rows : Int32} {v_cols : Int32} {v_high : Int32} {v_wide : Int32} {v_folds : Int32} {v_wrong : Int32} {v_more : Int32} {v_rowOf : List Int32} {v_colOf : List Int32} {v_below : List Int32} {v_face : List Int32} {v_worn : List Int32} {v_last : List Int32} {v_bend : List Int32} {v_tall : List Int32} {p1_rows : Int32} {p1_cols : Int32} {p1_high : Int32} {p1_wide : Int32} {p1_folds : Int32} {p1_wrong : Int32} {p1_more : Int32} {p1_rowOf : List Int32} {p1_colOf : List Int32} {p1_below : List Int32} {p1_face : List Int32} {p1_worn : List Int32} {p1_last : List Int32} {p1_bend : List Int32} {p1_tall : List Int32} {w_rows : Int32} {w_cols : Int32} {w_high : Int32} {w_wide : Int32} {w_folds : Int32} {w_wrong : Int32} {w_more : Int32} {w_rowOf : List Int32} {w_colOf : List Int32} {w_below : List Int32} {w_face : List Int32} {w_worn : List Int32} {w_last : List Int32} {N d : Nat} (hd : 2 ≤ d) (hf : fX5_beginTrial N v_rows v_cols v_high v_wide v_folds v_wrong v_more v_rowOf v_colOf v_below v_face v_worn v_last p1_rows p1_cols p1_high p1_wide p1_folds p1_wrong p1_more p1_rowOf p1_colOf p1_below p1_face p1_worn p1_last = some (w_rows, w_cols, w_high, w_wide, w_folds, w_wrong, w_more, w_rowOf, w_colOf, w_below, w_face, w_worn, w_last)) : mm_Ct l yX5_beginTrial cX5_beginTrial 2 none d D (mm_T cI cL cS cH) [.ref (a 0), .ref (a 9)] (wd_X5 cI cL cS cH a v_rows v_cols v_high v_wide v_folds v_wrong v_more v_rowOf v_colOf v_below v_face v_worn v_last v_bend v_tall ++ wd_X5 cI cL cS cH (fun k => a (k + 9)) p1_rows p1_cols p1_high p1_wide p1_folds p1_wrong p1_more p1_rowOf p1_colOf p1_below p1_face p1_worn p1_last p1_bend p1_tall) (wd_X5 cI cL cS cH a w_rows w_cols w_high w_wide w_folds w_wrong w_more w_rowOf w_colOf w_below w_face w_worn w_last v_bend v_tall ++ wd_X5 cI cL cS cH (fun k => a (k + 9)) p1_rows p1_cols p1_high p1_wide p1_folds p1_wrong p1_more p1_rowOf p1_colOf p1_below p1_face p1_worn p1_last p1_bend p1_tall) none := by
  refine mm_of (by decide) (Nat.le_of_ble_eq_true rfl) ?_
  intro p e s m args below meth c A H locs ls C0 hP hD hA hS hl
  have C0 : mm_Cx p s m args meth c RX5 cX5_beginTrial 2 none D (mm_T cI cL cS cH) A := C0
  obtain ⟨hx, hb, hml, hown, hts, hr, hlocks, hK, hSt⟩ := id C0
  have hl : lv_has ls 2 [(0, .ref (a 0)), (1, .ref (a 9))] := hl
  unfold fX5_beginTrial at hf
  refine lv_aload_n hx hb dX5_beginTrial_0 rfl (lv_at hl 0 rfl) ?_
  refine lv_aload_n hx hb dX5_beginTrial_1 rfl (lv_at hl 1 rfl) ?_
  refine mm_ct13 hf (fun w_1 w_2 w_3 w_4 w_5 w_6 w_7 w_8 w_9 w_10 w_11 w_12 w_13 hc_14 hf => ?_)
  refine mm_callVF (q0 := 0) (ci := 5) (rest := []) C0 lk_X5_80 (ctX5_copy (a := a) (d := d - 1) (by omega) hc_14) (by omega) rfl hl.1 rfl (mm_cat rfl) dX5_beginTrial_2 hP hD hA hS rfl rfl (fun H locs hP hD hS => ?_)
  refine W.eq (g2 := F0 m 5 ls []) rfl ?_
  refine lv_aload_n hx hb dX5_beginTrial_5 rfl (lv_at hl 0 rfl) ?_
  obtain ⟨w_15, w_16, w_17, hc_18, hf⟩ := mm_bd3s hf
  refine mm_callW (q0 := 0) (ci := 5) (w2 := (wd_X5 cI cL cS cH a w_1 w_2 w_3 w_4 w_15 w_16 w_17 w_8 w_9 w_10 w_11 w_12 w_13 v_bend v_tall ++ wd_X5 cI cL cS cH (fun k => a (k + 9)) p1_rows p1_cols p1_high p1_wide p1_folds p1_wrong p1_more p1_rowOf p1_colOf p1_below p1_face p1_worn p1_last p1_bend p1_tall)) (rest := []) C0 lk_X5_53 (ctX5_forgetLed (a := (fun k => a (k + 0))) (d := d - 1) (by omega) hc_18) (by omega) rfl hl.1 rfl (mm_cat rfl) dX5_beginTrial_6 hP hD hA hS rfl rfl [true, true, true, true, true, true, true, true, true, false, false, false, false, false, false, false, false, false] rfl rfl rfl rfl (fun H locs hP hD hS => ?_)
  refine W.eq (g2 := F0 m 9 ls []) rfl ?_
  refine lv_aload_n hx hb dX5_beginTrial_9 rfl (lv_at hl 0 rfl) ?_
  refine mm_ct6 hf (fun w_19 w_20 w_21 w_22 w_23 w_24 hc_25 hf => ?_)
  refine mm_callW (q0 := 0) (ci := 5) (w2 := (wd_X5 cI cL cS cH a w_1 w_2 w_19 w_20 w_15 w_16 w_17 w_21 w_22 w_23 w_24 w_12 w_13 v_bend v_tall ++ wd_X5 cI cL cS cH (fun k => a (k + 9)) p1_rows p1_cols p1_high p1_wide p1_folds p1_wrong p1_more p1_rowOf p1_colOf p1_below p1_face p1_worn p1_last p1_bend p1_tall)) (rest := []) C0 lk_X5_56 (ctX5_layOut (a := (fun k => a (k + 0))) (d := d - 1) (by omega) hc_25) (by omega) rfl hl.1 rfl (mm_cat rfl) dX5_beginTrial_10 hP hD hA hS rfl rfl [true, true, true, true, true, true, true, true, true, false, false, false, false, false, false, false, false, false] rfl rfl rfl rfl (fun H locs hP hD hS => ?_)
  refine W.eq (g2 := F0 m 13 ls []) rfl ?_
  apply mm_sub13 hf
  exact mm_vret C0 hP hD hS dX5_beginTrial_13

theorem dX5_fields_0 : decode cX5_fields 0 = .ok (.aload_n 0, 1) := by decide +kernel
theorem dX5_fields_1 : decode cX5_fields 1 = .ok (.getfield 40, 3) := by decide +kernel
theorem dX5_fields_4 : decode cX5_fields 4 = .ok (.aload_n 0, 1) := by decide +kernel
theorem dX5_fields_5 : decode cX5_fields 5 = .ok (.getfield 44, 3) := by decide +kernel
theorem dX5_fields_8 : decode cX5_fields 8 = .ok (.imul, 1) := by decide +kernel
theorem dX5_fields_9 : decode cX5_fields 9 = .ok (.ireturn, 1) := by decide +kernel
def fX5_fields (N : Nat) (v_rows : Int32) (v_cols : Int32) : Option (Int32) :=
    some ((v_rows * v_cols))

set_option maxHeartbeats 4000000 in
set_option maxRecDepth 100000 in
theorem ctX5_fields {l : Launch} {D : va_G} {cI cL cS cH : ClassId} {a : Nat → Nat}  {v_rows : Int32} {v_cols : Int32} {v_high : Int32} {v_wide : Int32} {v_folds : Int32} {v_wrong : Int32} {v_more : Int32} {v_rowOf : List Int32} {v_colOf : List Int32} {v_below : List Int32} {v_face : List Int32} {v_worn : List Int32} {v_last : List Int32} {v_bend : List Int32} {v_tall : List Int32} {r : Int32} {N d : Nat} (hd : 1 ≤ d) (hf : fX5_fields N v_rows v_cols = some r) : mm_Ct l yX5_fields cX5_fields 1 (some .int) d D (mm_T cI cL cS cH) [.ref (a 0)] (wd_X5 cI cL cS cH a v_rows v_cols v_high v_wide v_folds v_wrong v_more v_rowOf v_colOf v_below v_face v_worn v_last v_bend v_tall) (wd_X5 cI cL cS cH a v_rows v_cols v_high v_wide v_folds v_wrong v_more v_rowOf v_colOf v_below v_face v_worn v_last v_bend v_tall) (some (.int r)) := by
  refine mm_of (by decide) (Nat.le_of_ble_eq_true rfl) ?_
  intro p e s m args below meth c A H locs ls C0 hP hD hA hS hl
  have C0 : mm_Cx p s m args meth c RX5 cX5_fields 1 (some .int) D (mm_T cI cL cS cH) A := C0
  obtain ⟨hx, hb, hml, hown, hts, hr, hlocks, hK, hSt⟩ := id C0
  have hl : lv_has ls 1 [(0, .ref (a 0))] := hl
  unfold fX5_fields at hf
  refine lv_aload_n hx hb dX5_fields_0 rfl (lv_at hl 0 rfl) ?_
  refine mm_get C0 hP iw_X5 0 rfl rfl 0 (by decide) fl_X5_40 rfl dX5_fields_1 ?_
  refine lv_aload_n hx hb dX5_fields_4 rfl (lv_at hl 0 rfl) ?_
  refine mm_get C0 hP iw_X5 0 rfl rfl 1 (by decide) fl_X5_44 rfl dX5_fields_5 ?_
  refine lv_imul hx hb dX5_fields_8 ?_
  obtain rfl := mm_inj1 hf
  exact mm_iret C0 hP hD hS dX5_fields_9

theorem dX5_piles_0 : decode cX5_piles 0 = .ok (.aload_n 0, 1) := by decide +kernel
theorem dX5_piles_1 : decode cX5_piles 1 = .ok (.getfield 68, 3) := by decide +kernel
theorem dX5_piles_4 : decode cX5_piles 4 = .ok (.aload_n 0, 1) := by decide +kernel
theorem dX5_piles_5 : decode cX5_piles 5 = .ok (.getfield 71, 3) := by decide +kernel
theorem dX5_piles_8 : decode cX5_piles 8 = .ok (.imul, 1) := by decide +kernel
theorem dX5_piles_9 : decode cX5_piles 9 = .ok (.ireturn, 1) := by decide +kernel
def fX5_piles (N : Nat) (v_high : Int32) (v_wide : Int32) : Option (Int32) :=
    some ((v_high * v_wide))

set_option maxHeartbeats 4000000 in
set_option maxRecDepth 100000 in
theorem ctX5_piles {l : Launch} {D : va_G} {cI cL cS cH : ClassId} {a : Nat → Nat}  {v_rows : Int32} {v_cols : Int32} {v_high : Int32} {v_wide : Int32} {v_folds : Int32} {v_wrong : Int32} {v_more : Int32} {v_rowOf : List Int32} {v_colOf : List Int32} {v_below : List Int32} {v_face : List Int32} {v_worn : List Int32} {v_last : List Int32} {v_bend : List Int32} {v_tall : List Int32} {r : Int32} {N d : Nat} (hd : 1 ≤ d) (hf : fX5_piles N v_high v_wide = some r) : mm_Ct l yX5_piles cX5_piles 1 (some .int) d D (mm_T cI cL cS cH) [.ref (a 0)] (wd_X5 cI cL cS cH a v_rows v_cols v_high v_wide v_folds v_wrong v_more v_rowOf v_colOf v_below v_face v_worn v_last v_bend v_tall) (wd_X5 cI cL cS cH a v_rows v_cols v_high v_wide v_folds v_wrong v_more v_rowOf v_colOf v_below v_face v_worn v_last v_bend v_tall) (some (.int r)) := by
  refine mm_of (by decide) (Nat.le_of_ble_eq_true rfl) ?_
  intro p e s m args below meth c A H locs ls C0 hP hD hA hS hl
  have C0 : mm_Cx p s m args meth c RX5 cX5_piles 1 (some .int) D (mm_T cI cL cS cH) A := C0
  obtain ⟨hx, hb, hml, hown, hts, hr, hlocks, hK, hSt⟩ := id C0
  have hl : lv_has ls 1 [(0, .ref (a 0))] := hl
  unfold fX5_piles at hf
  refine lv_aload_n hx hb dX5_piles_0 rfl (lv_at hl 0 rfl) ?_
  refine mm_get C0 hP iw_X5 0 rfl rfl 2 (by decide) fl_X5_68 rfl dX5_piles_1 ?_
  refine lv_aload_n hx hb dX5_piles_4 rfl (lv_at hl 0 rfl) ?_
  refine mm_get C0 hP iw_X5 0 rfl rfl 3 (by decide) fl_X5_71 rfl dX5_piles_5 ?_
  refine lv_imul hx hb dX5_piles_8 ?_
  obtain rfl := mm_inj1 hf
  exact mm_iret C0 hP hD hS dX5_piles_9

theorem dX5_hasField_0 : decode cX5_hasField 0 = .ok (.iload_n 1, 1) := by decide +kernel
theorem dX5_hasField_1 : decode cX5_hasField 1 = .ok (.ifCond .lt 15, 3) := by decide +kernel
theorem dX5_hasField_4 : decode cX5_hasField 4 = .ok (.iload_n 1, 1) := by decide +kernel
theorem dX5_hasField_5 : decode cX5_hasField 5 = .ok (.aload_n 0, 1) := by decide +kernel
theorem dX5_hasField_6 : decode cX5_hasField 6 = .ok (.invokevirtual 84, 3) := by decide +kernel
theorem dX5_hasField_9 : decode cX5_hasField 9 = .ok (.if_icmp .ge 7, 3) := by decide +kernel
theorem dX5_hasField_12 : decode cX5_hasField 12 = .ok (.iconst 1, 1) := by decide +kernel
theorem dX5_hasField_13 : decode cX5_hasField 13 = .ok (.goto 4, 3) := by decide +kernel
theorem dX5_hasField_16 : decode cX5_hasField 16 = .ok (.iconst 0, 1) := by decide +kernel
theorem dX5_hasField_17 : decode cX5_hasField 17 = .ok (.ireturn, 1) := by decide +kernel
def fX5_hasField (N : Nat) (x1 : Int32) (v_rows : Int32) (v_cols : Int32) : Option (Bool) :=
    if x1 < 0 then
    (some (false))
    else (mm_bd1 (fX5_fields N v_rows v_cols) (fun (r_2 : Int32) =>
    if r_2 ≤ x1 then
    (some (false))
    else (some (true))))

set_option maxHeartbeats 4000000 in
set_option maxRecDepth 100000 in
theorem ctX5_hasField {l : Launch} {D : va_G} {cI cL cS cH : ClassId} {a : Nat → Nat} {x1 : Int32} {v_rows : Int32} {v_cols : Int32} {v_high : Int32} {v_wide : Int32} {v_folds : Int32} {v_wrong : Int32} {v_more : Int32} {v_rowOf : List Int32} {v_colOf : List Int32} {v_below : List Int32} {v_face : List Int32} {v_worn : List Int32} {v_last : List Int32} {v_bend : List Int32} {v_tall : List Int32} {r : Bool} {N d : Nat} (hd : 2 ≤ d) (hf : fX5_hasField N x1 v_rows v_cols = some r) : mm_Ct l yX5_hasField cX5_hasField 2 (some .boolean) d D (mm_T cI cL cS cH) [.ref (a 0), .int x1] (wd_X5 cI cL cS cH a v_rows v_cols v_high v_wide v_folds v_wrong v_more v_rowOf v_colOf v_below v_face v_worn v_last v_bend v_tall) (wd_X5 cI cL cS cH a v_rows v_cols v_high v_wide v_folds v_wrong v_more v_rowOf v_colOf v_below v_face v_worn v_last v_bend v_tall) (some (.int (mm_b r))) := by
  refine mm_of (by decide) (Nat.le_of_ble_eq_true rfl) ?_
  intro p e s m args below meth c A H locs ls C0 hP hD hA hS hl
  have C0 : mm_Cx p s m args meth c RX5 cX5_hasField 2 (some .boolean) D (mm_T cI cL cS cH) A := C0
  obtain ⟨hx, hb, hml, hown, hts, hr, hlocks, hK, hSt⟩ := id C0
  have hl : lv_has ls 2 [(0, .ref (a 0)), (1, .int x1)] := hl
  unfold fX5_hasField at hf
  refine lv_iload_n hx hb dX5_hasField_0 rfl (lv_at hl 1 rfl) ?_
  refine lv_if_lt (tgt := 16) hx hb dX5_hasField_1 (by decide) (fun c_1 => ?_) (fun c_1 => ?_)
  · have hf := mm_ip hf c_1
    refine lv_iconst (v := 0) hx hb dX5_hasField_16 (by decide) ?_
    obtain rfl := mm_inj1 hf
    exact mm_zret (v := false) C0 hP hD hS dX5_hasField_17 (by decide)
  · have hf := mm_in hf c_1
    refine lv_iload_n hx hb dX5_hasField_4 rfl (lv_at hl 1 rfl) ?_
    refine lv_aload_n hx hb dX5_hasField_5 rfl (lv_at hl 0 rfl) ?_
    obtain ⟨r_2, hc_3, hf⟩ := mm_bd1s hf
    refine mm_callVF (q0 := 0) (ci := 5) (rest := [.int x1]) C0 lk_X5_84 (ctX5_fields (a := a) (d := d - 1) (by omega) hc_3) (by omega) rfl hl.1 rfl (mm_cat rfl) dX5_hasField_6 hP hD hA hS rfl rfl (fun H locs hP hD hS => ?_)
    refine W.eq (g2 := F0 m 9 ls [.int r_2, .int x1]) rfl ?_
    refine lv_icmp_ge (tgt := 16) hx hb dX5_hasField_9 (by decide) (fun c_4 => ?_) (fun c_4 => ?_)
    · have hf := mm_ip hf c_4
      refine lv_iconst (v := 0) hx hb dX5_hasField_16 (by decide) ?_
      obtain rfl := mm_inj1 hf
      exact mm_zret (v := false) C0 hP hD hS dX5_hasField_17 (by decide)
    · have hf := mm_in hf c_4
      refine lv_iconst (v := 1) hx hb dX5_hasField_12 (by decide) ?_
      refine lv_goto (tgt := 17) hx hb dX5_hasField_13 (by decide) ?_
      obtain rfl := mm_inj1 hf
      exact mm_zret (v := true) C0 hP hD hS dX5_hasField_17 (by decide)

theorem dX5_hasPile_0 : decode cX5_hasPile 0 = .ok (.iload_n 1, 1) := by decide +kernel
theorem dX5_hasPile_1 : decode cX5_hasPile 1 = .ok (.ifCond .lt 29, 3) := by decide +kernel
theorem dX5_hasPile_4 : decode cX5_hasPile 4 = .ok (.iload_n 1, 1) := by decide +kernel
theorem dX5_hasPile_5 : decode cX5_hasPile 5 = .ok (.bipush 10, 2) := by decide +kernel
theorem dX5_hasPile_7 : decode cX5_hasPile 7 = .ok (.idiv, 1) := by decide +kernel
theorem dX5_hasPile_8 : decode cX5_hasPile 8 = .ok (.aload_n 0, 1) := by decide +kernel
theorem dX5_hasPile_9 : decode cX5_hasPile 9 = .ok (.getfield 68, 3) := by decide +kernel
theorem dX5_hasPile_12 : decode cX5_hasPile 12 = .ok (.if_icmp .ge 18, 3) := by decide +kernel
theorem dX5_hasPile_15 : decode cX5_hasPile 15 = .ok (.iload_n 1, 1) := by decide +kernel
theorem dX5_hasPile_16 : decode cX5_hasPile 16 = .ok (.bipush 10, 2) := by decide +kernel
theorem dX5_hasPile_18 : decode cX5_hasPile 18 = .ok (.irem, 1) := by decide +kernel
theorem dX5_hasPile_19 : decode cX5_hasPile 19 = .ok (.aload_n 0, 1) := by decide +kernel
theorem dX5_hasPile_20 : decode cX5_hasPile 20 = .ok (.getfield 71, 3) := by decide +kernel
theorem dX5_hasPile_23 : decode cX5_hasPile 23 = .ok (.if_icmp .ge 7, 3) := by decide +kernel
theorem dX5_hasPile_26 : decode cX5_hasPile 26 = .ok (.iconst 1, 1) := by decide +kernel
theorem dX5_hasPile_27 : decode cX5_hasPile 27 = .ok (.goto 4, 3) := by decide +kernel
theorem dX5_hasPile_30 : decode cX5_hasPile 30 = .ok (.iconst 0, 1) := by decide +kernel
theorem dX5_hasPile_31 : decode cX5_hasPile 31 = .ok (.ireturn, 1) := by decide +kernel
def fX5_hasPile (N : Nat) (x1 : Int32) (v_high : Int32) (v_wide : Int32) : Option (Bool) :=
    if x1 < 0 then
    (some (false))
    else (mm_ck (mm_nz (10 : Int32)) (if v_high ≤ (x1 / (10 : Int32)) then
    (some (false))
    else (mm_ck (mm_nz (10 : Int32)) (if v_wide ≤ (mm_rem x1 (10 : Int32)) then
    (some (false))
    else (some (true))))))

set_option maxHeartbeats 4000000 in
set_option maxRecDepth 100000 in
theorem ctX5_hasPile {l : Launch} {D : va_G} {cI cL cS cH : ClassId} {a : Nat → Nat} {x1 : Int32} {v_rows : Int32} {v_cols : Int32} {v_high : Int32} {v_wide : Int32} {v_folds : Int32} {v_wrong : Int32} {v_more : Int32} {v_rowOf : List Int32} {v_colOf : List Int32} {v_below : List Int32} {v_face : List Int32} {v_worn : List Int32} {v_last : List Int32} {v_bend : List Int32} {v_tall : List Int32} {r : Bool} {N d : Nat} (hd : 1 ≤ d) (hf : fX5_hasPile N x1 v_high v_wide = some r) : mm_Ct l yX5_hasPile cX5_hasPile 2 (some .boolean) d D (mm_T cI cL cS cH) [.ref (a 0), .int x1] (wd_X5 cI cL cS cH a v_rows v_cols v_high v_wide v_folds v_wrong v_more v_rowOf v_colOf v_below v_face v_worn v_last v_bend v_tall) (wd_X5 cI cL cS cH a v_rows v_cols v_high v_wide v_folds v_wrong v_more v_rowOf v_colOf v_below v_face v_worn v_last v_bend v_tall) (some (.int (mm_b r))) := by
  refine mm_of (by decide) (Nat.le_of_ble_eq_true rfl) ?_
  intro p e s m args below meth c A H locs ls C0 hP hD hA hS hl
  have C0 : mm_Cx p s m args meth c RX5 cX5_hasPile 2 (some .boolean) D (mm_T cI cL cS cH) A := C0
  obtain ⟨hx, hb, hml, hown, hts, hr, hlocks, hK, hSt⟩ := id C0
  have hl : lv_has ls 2 [(0, .ref (a 0)), (1, .int x1)] := hl
  unfold fX5_hasPile at hf
  refine lv_iload_n hx hb dX5_hasPile_0 rfl (lv_at hl 1 rfl) ?_
  refine lv_if_lt (tgt := 30) hx hb dX5_hasPile_1 (by decide) (fun c_1 => ?_) (fun c_1 => ?_)
  · have hf := mm_ip hf c_1
    refine lv_iconst (v := 0) hx hb dX5_hasPile_30 (by decide) ?_
    obtain rfl := mm_inj1 hf
    exact mm_zret (v := false) C0 hP hD hS dX5_hasPile_31 (by decide)
  · have hf := mm_in hf c_1
    refine lv_iload_n hx hb dX5_hasPile_4 rfl (lv_at hl 1 rfl) ?_
    refine lv_bipush (v := 10) hx hb dX5_hasPile_5 (by decide) ?_
    obtain ⟨h_2, hf⟩ := mm_cks hf
    refine lv_idiv hx hb dX5_hasPile_7 (mm_nzs h_2) ?_
    refine lv_aload_n hx hb dX5_hasPile_8 rfl (lv_at hl 0 rfl) ?_
    refine mm_get C0 hP iw_X5 0 rfl rfl 2 (by decide) fl_X5_68 rfl dX5_hasPile_9 ?_
    refine lv_icmp_ge (tgt := 30) hx hb dX5_hasPile_12 (by decide) (fun c_3 => ?_) (fun c_3 => ?_)
    · have hf := mm_ip hf c_3
      refine lv_iconst (v := 0) hx hb dX5_hasPile_30 (by decide) ?_
      obtain rfl := mm_inj1 hf
      exact mm_zret (v := false) C0 hP hD hS dX5_hasPile_31 (by decide)
    · have hf := mm_in hf c_3
      refine lv_iload_n hx hb dX5_hasPile_15 rfl (lv_at hl 1 rfl) ?_
      refine lv_bipush (v := 10) hx hb dX5_hasPile_16 (by decide) ?_
      obtain ⟨h_4, hf⟩ := mm_cks hf
      refine lv_irem hx hb dX5_hasPile_18 (mm_nzs h_4) ?_
      refine lv_aload_n hx hb dX5_hasPile_19 rfl (lv_at hl 0 rfl) ?_
      refine mm_get C0 hP iw_X5 0 rfl rfl 3 (by decide) fl_X5_71 rfl dX5_hasPile_20 ?_
      refine lv_icmp_ge (tgt := 30) hx hb dX5_hasPile_23 (by decide) (fun c_5 => ?_) (fun c_5 => ?_)
      · have hf := mm_ip hf c_5
        refine lv_iconst (v := 0) hx hb dX5_hasPile_30 (by decide) ?_
        obtain rfl := mm_inj1 hf
        exact mm_zret (v := false) C0 hP hD hS dX5_hasPile_31 (by decide)
      · have hf := mm_in hf c_5
        refine lv_iconst (v := 1) hx hb dX5_hasPile_26 (by decide) ?_
        refine lv_goto (tgt := 31) hx hb dX5_hasPile_27 (by decide) ?_
        obtain rfl := mm_inj1 hf
        exact mm_zret (v := true) C0 hP hD hS dX5_hasPile_31 (by decide)

theorem dX5_span_0 : decode cX5_span 0 = .ok (.iload_n 1, 1) := by decide +kernel
theorem dX5_span_1 : decode cX5_span 1 = .ok (.iconst 4, 1) := by decide +kernel
theorem dX5_span_2 : decode cX5_span 2 = .ok (.if_icmp .ge 10, 3) := by decide +kernel
theorem dX5_span_5 : decode cX5_span 5 = .ok (.aload_n 0, 1) := by decide +kernel
theorem dX5_span_6 : decode cX5_span 6 = .ok (.getfield 71, 3) := by decide +kernel
theorem dX5_span_9 : decode cX5_span 9 = .ok (.goto 7, 3) := by decide +kernel
theorem dX5_span_12 : decode cX5_span 12 = .ok (.aload_n 0, 1) := by decide +kernel
theorem dX5_span_13 : decode cX5_span 13 = .ok (.getfield 68, 3) := by decide +kernel
theorem dX5_span_16 : decode cX5_span 16 = .ok (.ireturn, 1) := by decide +kernel
def fX5_span (N : Nat) (x1 : Int32) (v_high : Int32) (v_wide : Int32) : Option (Int32) :=
    if (4 : Int32) ≤ x1 then
    (some (v_high))
    else (some (v_wide))

set_option maxHeartbeats 4000000 in
set_option maxRecDepth 100000 in
theorem ctX5_span {l : Launch} {D : va_G} {cI cL cS cH : ClassId} {a : Nat → Nat} {x1 : Int32} {v_rows : Int32} {v_cols : Int32} {v_high : Int32} {v_wide : Int32} {v_folds : Int32} {v_wrong : Int32} {v_more : Int32} {v_rowOf : List Int32} {v_colOf : List Int32} {v_below : List Int32} {v_face : List Int32} {v_worn : List Int32} {v_last : List Int32} {v_bend : List Int32} {v_tall : List Int32} {r : Int32} {N d : Nat} (hd : 1 ≤ d) (hf : fX5_span N x1 v_high v_wide = some r) : mm_Ct l yX5_span cX5_span 2 (some .int) d D (mm_T cI cL cS cH) [.ref (a 0), .int x1] (wd_X5 cI cL cS cH a v_rows v_cols v_high v_wide v_folds v_wrong v_more v_rowOf v_colOf v_below v_face v_worn v_last v_bend v_tall) (wd_X5 cI cL cS cH a v_rows v_cols v_high v_wide v_folds v_wrong v_more v_rowOf v_colOf v_below v_face v_worn v_last v_bend v_tall) (some (.int r)) := by
  refine mm_of (by decide) (Nat.le_of_ble_eq_true rfl) ?_
  intro p e s m args below meth c A H locs ls C0 hP hD hA hS hl
  have C0 : mm_Cx p s m args meth c RX5 cX5_span 2 (some .int) D (mm_T cI cL cS cH) A := C0
  obtain ⟨hx, hb, hml, hown, hts, hr, hlocks, hK, hSt⟩ := id C0
  have hl : lv_has ls 2 [(0, .ref (a 0)), (1, .int x1)] := hl
  unfold fX5_span at hf
  refine lv_iload_n hx hb dX5_span_0 rfl (lv_at hl 1 rfl) ?_
  refine lv_iconst (v := 4) hx hb dX5_span_1 (by decide) ?_
  refine lv_icmp_ge (tgt := 12) hx hb dX5_span_2 (by decide) (fun c_1 => ?_) (fun c_1 => ?_)
  · have hf := mm_ip hf c_1
    refine lv_aload_n hx hb dX5_span_12 rfl (lv_at hl 0 rfl) ?_
    refine mm_get C0 hP iw_X5 0 rfl rfl 2 (by decide) fl_X5_68 rfl dX5_span_13 ?_
    obtain rfl := mm_inj1 hf
    exact mm_iret C0 hP hD hS dX5_span_16
  · have hf := mm_in hf c_1
    refine lv_aload_n hx hb dX5_span_5 rfl (lv_at hl 0 rfl) ?_
    refine mm_get C0 hP iw_X5 0 rfl rfl 3 (by decide) fl_X5_71 rfl dX5_span_6 ?_
    refine lv_goto (tgt := 16) hx hb dX5_span_9 (by decide) ?_
    obtain rfl := mm_inj1 hf
    exact mm_iret C0 hP hD hS dX5_span_16

theorem dX5_hasLine_0 : decode cX5_hasLine 0 = .ok (.iload_n 1, 1) := by decide +kernel
theorem dX5_hasLine_1 : decode cX5_hasLine 1 = .ok (.iconst 1, 1) := by decide +kernel
theorem dX5_hasLine_2 : decode cX5_hasLine 2 = .ok (.if_icmp .lt 16, 3) := by decide +kernel
theorem dX5_hasLine_5 : decode cX5_hasLine 5 = .ok (.iload_n 1, 1) := by decide +kernel
theorem dX5_hasLine_6 : decode cX5_hasLine 6 = .ok (.aload_n 0, 1) := by decide +kernel
theorem dX5_hasLine_7 : decode cX5_hasLine 7 = .ok (.iload_n 2, 1) := by decide +kernel
theorem dX5_hasLine_8 : decode cX5_hasLine 8 = .ok (.invokevirtual 88, 3) := by decide +kernel
theorem dX5_hasLine_11 : decode cX5_hasLine 11 = .ok (.if_icmp .ge 7, 3) := by decide +kernel
theorem dX5_hasLine_14 : decode cX5_hasLine 14 = .ok (.iconst 1, 1) := by decide +kernel
theorem dX5_hasLine_15 : decode cX5_hasLine 15 = .ok (.goto 4, 3) := by decide +kernel
theorem dX5_hasLine_18 : decode cX5_hasLine 18 = .ok (.iconst 0, 1) := by decide +kernel
theorem dX5_hasLine_19 : decode cX5_hasLine 19 = .ok (.ireturn, 1) := by decide +kernel
def fX5_hasLine (N : Nat) (x1 : Int32) (x2 : Int32) (v_high : Int32) (v_wide : Int32) : Option (Bool) :=
    if x1 < (1 : Int32) then
    (some (false))
    else (mm_bd1 (fX5_span N x2 v_high v_wide) (fun (r_2 : Int32) =>
    if r_2 ≤ x1 then
    (some (false))
    else (some (true))))

set_option maxHeartbeats 4000000 in
set_option maxRecDepth 100000 in
theorem ctX5_hasLine {l : Launch} {D : va_G} {cI cL cS cH : ClassId} {a : Nat → Nat} {x1 : Int32} {x2 : Int32} {v_rows : Int32} {v_cols : Int32} {v_high : Int32} {v_wide : Int32} {v_folds : Int32} {v_wrong : Int32} {v_more : Int32} {v_rowOf : List Int32} {v_colOf : List Int32} {v_below : List Int32} {v_face : List Int32} {v_worn : List Int32} {v_last : List Int32} {v_bend : List Int32} {v_tall : List Int32} {r : Bool} {N d : Nat} (hd : 2 ≤ d) (hf : fX5_hasLine N x1 x2 v_high v_wide = some r) : mm_Ct l yX5_hasLine cX5_hasLine 3 (some .boolean) d D (mm_T cI cL cS cH) [.ref (a 0), .int x1, .int x2] (wd_X5 cI cL cS cH a v_rows v_cols v_high v_wide v_folds v_wrong v_more v_rowOf v_colOf v_below v_face v_worn v_last v_bend v_tall) (wd_X5 cI cL cS cH a v_rows v_cols v_high v_wide v_folds v_wrong v_more v_rowOf v_colOf v_below v_face v_worn v_last v_bend v_tall) (some (.int (mm_b r))) := by
  refine mm_of (by decide) (Nat.le_of_ble_eq_true rfl) ?_
  intro p e s m args below meth c A H locs ls C0 hP hD hA hS hl
  have C0 : mm_Cx p s m args meth c RX5 cX5_hasLine 3 (some .boolean) D (mm_T cI cL cS cH) A := C0
  obtain ⟨hx, hb, hml, hown, hts, hr, hlocks, hK, hSt⟩ := id C0
  have hl : lv_has ls 3 [(0, .ref (a 0)), (1, .int x1), (2, .int x2)] := hl
  unfold fX5_hasLine at hf
  refine lv_iload_n hx hb dX5_hasLine_0 rfl (lv_at hl 1 rfl) ?_
  refine lv_iconst (v := 1) hx hb dX5_hasLine_1 (by decide) ?_
  refine lv_icmp_lt (tgt := 18) hx hb dX5_hasLine_2 (by decide) (fun c_1 => ?_) (fun c_1 => ?_)
  · have hf := mm_ip hf c_1
    refine lv_iconst (v := 0) hx hb dX5_hasLine_18 (by decide) ?_
    obtain rfl := mm_inj1 hf
    exact mm_zret (v := false) C0 hP hD hS dX5_hasLine_19 (by decide)
  · have hf := mm_in hf c_1
    refine lv_iload_n hx hb dX5_hasLine_5 rfl (lv_at hl 1 rfl) ?_
    refine lv_aload_n hx hb dX5_hasLine_6 rfl (lv_at hl 0 rfl) ?_
    refine lv_iload_n hx hb dX5_hasLine_7 rfl (lv_at hl 2 rfl) ?_
    obtain ⟨r_2, hc_3, hf⟩ := mm_bd1s hf
    refine mm_callVF (q0 := 0) (ci := 5) (rest := [.int x1]) C0 lk_X5_88 (ctX5_span (a := a) (d := d - 1) (by omega) hc_3) (by omega) rfl hl.1 rfl (mm_cat rfl) dX5_hasLine_8 hP hD hA hS rfl rfl (fun H locs hP hD hS => ?_)
    refine W.eq (g2 := F0 m 11 ls [.int r_2, .int x1]) rfl ?_
    refine lv_icmp_ge (tgt := 18) hx hb dX5_hasLine_11 (by decide) (fun c_4 => ?_) (fun c_4 => ?_)
    · have hf := mm_ip hf c_4
      refine lv_iconst (v := 0) hx hb dX5_hasLine_18 (by decide) ?_
      obtain rfl := mm_inj1 hf
      exact mm_zret (v := false) C0 hP hD hS dX5_hasLine_19 (by decide)
    · have hf := mm_in hf c_4
      refine lv_iconst (v := 1) hx hb dX5_hasLine_14 (by decide) ?_
      refine lv_goto (tgt := 19) hx hb dX5_hasLine_15 (by decide) ?_
      obtain rfl := mm_inj1 hf
      exact mm_zret (v := true) C0 hP hD hS dX5_hasLine_19 (by decide)

theorem dX5_spanBehind_0 : decode cX5_spanBehind 0 = .ok (.iload_n 1, 1) := by decide +kernel
theorem dX5_spanBehind_1 : decode cX5_spanBehind 1 = .ok (.aload_n 0, 1) := by decide +kernel
theorem dX5_spanBehind_2 : decode cX5_spanBehind 2 = .ok (.iload_n 2, 1) := by decide +kernel
theorem dX5_spanBehind_3 : decode cX5_spanBehind 3 = .ok (.invokevirtual 88, 3) := by decide +kernel
theorem dX5_spanBehind_6 : decode cX5_spanBehind 6 = .ok (.iload_n 1, 1) := by decide +kernel
theorem dX5_spanBehind_7 : decode cX5_spanBehind 7 = .ok (.isub, 1) := by decide +kernel
theorem dX5_spanBehind_8 : decode cX5_spanBehind 8 = .ok (.invokestatic 92, 3) := by decide +kernel
theorem dX5_spanBehind_11 : decode cX5_spanBehind 11 = .ok (.ireturn, 1) := by decide +kernel
def fX5_spanBehind (N : Nat) (x1 : Int32) (x2 : Int32) (v_high : Int32) (v_wide : Int32) : Option (Int32) :=
    mm_bd1 (fX5_span N x2 v_high v_wide) (fun (r_1 : Int32) =>
    some ((mm_max x1 (r_1 - x1))))

set_option maxHeartbeats 4000000 in
set_option maxRecDepth 100000 in
theorem ctX5_spanBehind {l : Launch} {D : va_G} {cI cL cS cH : ClassId} {a : Nat → Nat} {x1 : Int32} {x2 : Int32} {v_rows : Int32} {v_cols : Int32} {v_high : Int32} {v_wide : Int32} {v_folds : Int32} {v_wrong : Int32} {v_more : Int32} {v_rowOf : List Int32} {v_colOf : List Int32} {v_below : List Int32} {v_face : List Int32} {v_worn : List Int32} {v_last : List Int32} {v_bend : List Int32} {v_tall : List Int32} {r : Int32} {N d : Nat} (hd : 2 ≤ d) (hf : fX5_spanBehind N x1 x2 v_high v_wide = some r) : mm_Ct l yX5_spanBehind cX5_spanBehind 3 (some .int) d D (mm_T cI cL cS cH) [.ref (a 0), .int x1, .int x2] (wd_X5 cI cL cS cH a v_rows v_cols v_high v_wide v_folds v_wrong v_more v_rowOf v_colOf v_below v_face v_worn v_last v_bend v_tall) (wd_X5 cI cL cS cH a v_rows v_cols v_high v_wide v_folds v_wrong v_more v_rowOf v_colOf v_below v_face v_worn v_last v_bend v_tall) (some (.int r)) := by
  refine mm_of (by decide) (Nat.le_of_ble_eq_true rfl) ?_
  intro p e s m args below meth c A H locs ls C0 hP hD hA hS hl
  have C0 : mm_Cx p s m args meth c RX5 cX5_spanBehind 3 (some .int) D (mm_T cI cL cS cH) A := C0
  obtain ⟨hx, hb, hml, hown, hts, hr, hlocks, hK, hSt⟩ := id C0
  have hl : lv_has ls 3 [(0, .ref (a 0)), (1, .int x1), (2, .int x2)] := hl
  unfold fX5_spanBehind at hf
  refine lv_iload_n hx hb dX5_spanBehind_0 rfl (lv_at hl 1 rfl) ?_
  refine lv_aload_n hx hb dX5_spanBehind_1 rfl (lv_at hl 0 rfl) ?_
  refine lv_iload_n hx hb dX5_spanBehind_2 rfl (lv_at hl 2 rfl) ?_
  obtain ⟨r_1, hc_2, hf⟩ := mm_bd1s hf
  refine mm_callVF (q0 := 0) (ci := 5) (rest := [.int x1]) C0 lk_X5_88 (ctX5_span (a := a) (d := d - 1) (by omega) hc_2) (by omega) rfl hl.1 rfl (mm_cat rfl) dX5_spanBehind_3 hP hD hA hS rfl rfl (fun H locs hP hD hS => ?_)
  refine W.eq (g2 := F0 m 6 ls [.int r_1, .int x1]) rfl ?_
  refine lv_iload_n hx hb dX5_spanBehind_6 rfl (lv_at hl 1 rfl) ?_
  refine lv_isub hx hb dX5_spanBehind_7 ?_
  refine mm_mmax C0 lm_X5_92 (by omega) hl.1 (mm_cat rfl) dX5_spanBehind_8 ?_
  obtain rfl := mm_inj1 hf
  exact mm_iret C0 hP hD hS dX5_spanBehind_11

theorem dX5_neighbour_0 : decode cX5_neighbour 0 = .ok (.aload_n 0, 1) := by decide +kernel
theorem dX5_neighbour_1 : decode cX5_neighbour 1 = .ok (.iload_n 1, 1) := by decide +kernel
theorem dX5_neighbour_2 : decode cX5_neighbour 2 = .ok (.invokevirtual 98, 3) := by decide +kernel
theorem dX5_neighbour_5 : decode cX5_neighbour 5 = .ok (.ifCond .ne 5, 3) := by decide +kernel
theorem dX5_neighbour_8 : decode cX5_neighbour 8 = .ok (.iconst (-1), 1) := by decide +kernel
theorem dX5_neighbour_9 : decode cX5_neighbour 9 = .ok (.ireturn, 1) := by decide +kernel
theorem dX5_neighbour_10 : decode cX5_neighbour 10 = .ok (.iload_n 2, 1) := by decide +kernel
theorem dX5_neighbour_11 : decode cX5_neighbour 11 = .ok (.ifCond .ne 26, 3) := by decide +kernel
theorem dX5_neighbour_14 : decode cX5_neighbour 14 = .ok (.iload_n 1, 1) := by decide +kernel
theorem dX5_neighbour_15 : decode cX5_neighbour 15 = .ok (.aload_n 0, 1) := by decide +kernel
theorem dX5_neighbour_16 : decode cX5_neighbour 16 = .ok (.getfield 44, 3) := by decide +kernel
theorem dX5_neighbour_19 : decode cX5_neighbour 19 = .ok (.irem, 1) := by decide +kernel
theorem dX5_neighbour_20 : decode cX5_neighbour 20 = .ok (.aload_n 0, 1) := by decide +kernel
theorem dX5_neighbour_21 : decode cX5_neighbour 21 = .ok (.getfield 44, 3) := by decide +kernel
theorem dX5_neighbour_24 : decode cX5_neighbour 24 = .ok (.iconst 1, 1) := by decide +kernel
theorem dX5_neighbour_25 : decode cX5_neighbour 25 = .ok (.isub, 1) := by decide +kernel
theorem dX5_neighbour_26 : decode cX5_neighbour 26 = .ok (.if_icmp .ge 9, 3) := by decide +kernel
theorem dX5_neighbour_29 : decode cX5_neighbour 29 = .ok (.iload_n 1, 1) := by decide +kernel
theorem dX5_neighbour_30 : decode cX5_neighbour 30 = .ok (.iconst 1, 1) := by decide +kernel
theorem dX5_neighbour_31 : decode cX5_neighbour 31 = .ok (.iadd, 1) := by decide +kernel
theorem dX5_neighbour_32 : decode cX5_neighbour 32 = .ok (.goto 4, 3) := by decide +kernel
theorem dX5_neighbour_35 : decode cX5_neighbour 35 = .ok (.iconst (-1), 1) := by decide +kernel
theorem dX5_neighbour_36 : decode cX5_neighbour 36 = .ok (.ireturn, 1) := by decide +kernel
theorem dX5_neighbour_37 : decode cX5_neighbour 37 = .ok (.iload_n 2, 1) := by decide +kernel
theorem dX5_neighbour_38 : decode cX5_neighbour 38 = .ok (.iconst 1, 1) := by decide +kernel
theorem dX5_neighbour_39 : decode cX5_neighbour 39 = .ok (.if_icmp .ne 25, 3) := by decide +kernel
theorem dX5_neighbour_42 : decode cX5_neighbour 42 = .ok (.iload_n 1, 1) := by decide +kernel
theorem dX5_neighbour_43 : decode cX5_neighbour 43 = .ok (.aload_n 0, 1) := by decide +kernel
theorem dX5_neighbour_44 : decode cX5_neighbour 44 = .ok (.getfield 44, 3) := by decide +kernel
theorem dX5_neighbour_47 : decode cX5_neighbour 47 = .ok (.iadd, 1) := by decide +kernel
theorem dX5_neighbour_48 : decode cX5_neighbour 48 = .ok (.aload_n 0, 1) := by decide +kernel
theorem dX5_neighbour_49 : decode cX5_neighbour 49 = .ok (.invokevirtual 84, 3) := by decide +kernel
theorem dX5_neighbour_52 : decode cX5_neighbour 52 = .ok (.if_icmp .ge 12, 3) := by decide +kernel
theorem dX5_neighbour_55 : decode cX5_neighbour 55 = .ok (.iload_n 1, 1) := by decide +kernel
theorem dX5_neighbour_56 : decode cX5_neighbour 56 = .ok (.aload_n 0, 1) := by decide +kernel
theorem dX5_neighbour_57 : decode cX5_neighbour 57 = .ok (.getfield 44, 3) := by decide +kernel
theorem dX5_neighbour_60 : decode cX5_neighbour 60 = .ok (.iadd, 1) := by decide +kernel
theorem dX5_neighbour_61 : decode cX5_neighbour 61 = .ok (.goto 4, 3) := by decide +kernel
theorem dX5_neighbour_64 : decode cX5_neighbour 64 = .ok (.iconst (-1), 1) := by decide +kernel
theorem dX5_neighbour_65 : decode cX5_neighbour 65 = .ok (.ireturn, 1) := by decide +kernel
def fX5_neighbour (N : Nat) (x1 : Int32) (x2 : Int32) (v_rows : Int32) (v_cols : Int32) : Option (Int32) :=
    mm_bd1 (fX5_hasField N x1 v_rows v_cols) (fun (r_1 : Bool) =>
    if r_1 = false then
    (some ((-1 : Int32)))
    else (if x2 = 0 then
    (mm_ck (mm_nz v_cols) (if (v_cols - (1 : Int32)) ≤ (mm_rem x1 v_cols) then
    (some ((-1 : Int32)))
    else (some ((x1 + (1 : Int32))))))
    else (if x2 = (1 : Int32) then
    (mm_bd1 (fX5_fields N v_rows v_cols) (fun (r_6 : Int32) =>
    if r_6 ≤ (x1 + v_cols) then
    (some ((-1 : Int32)))
    else (some ((x1 + v_cols)))))
    else (some ((-1 : Int32))))))

set_option maxHeartbeats 4000000 in
set_option maxRecDepth 100000 in
theorem ctX5_neighbour {l : Launch} {D : va_G} {cI cL cS cH : ClassId} {a : Nat → Nat} {x1 : Int32} {x2 : Int32} {v_rows : Int32} {v_cols : Int32} {v_high : Int32} {v_wide : Int32} {v_folds : Int32} {v_wrong : Int32} {v_more : Int32} {v_rowOf : List Int32} {v_colOf : List Int32} {v_below : List Int32} {v_face : List Int32} {v_worn : List Int32} {v_last : List Int32} {v_bend : List Int32} {v_tall : List Int32} {r : Int32} {N d : Nat} (hd : 3 ≤ d) (hf : fX5_neighbour N x1 x2 v_rows v_cols = some r) : mm_Ct l yX5_neighbour cX5_neighbour 3 (some .int) d D (mm_T cI cL cS cH) [.ref (a 0), .int x1, .int x2] (wd_X5 cI cL cS cH a v_rows v_cols v_high v_wide v_folds v_wrong v_more v_rowOf v_colOf v_below v_face v_worn v_last v_bend v_tall) (wd_X5 cI cL cS cH a v_rows v_cols v_high v_wide v_folds v_wrong v_more v_rowOf v_colOf v_below v_face v_worn v_last v_bend v_tall) (some (.int r)) := by
  refine mm_of (by decide) (Nat.le_of_ble_eq_true rfl) ?_
  intro p e s m args below meth c A H locs ls C0 hP hD hA hS hl
  have C0 : mm_Cx p s m args meth c RX5 cX5_neighbour 3 (some .int) D (mm_T cI cL cS cH) A := C0
  obtain ⟨hx, hb, hml, hown, hts, hr, hlocks, hK, hSt⟩ := id C0
  have hl : lv_has ls 3 [(0, .ref (a 0)), (1, .int x1), (2, .int x2)] := hl
  unfold fX5_neighbour at hf
  refine lv_aload_n hx hb dX5_neighbour_0 rfl (lv_at hl 0 rfl) ?_
  refine lv_iload_n hx hb dX5_neighbour_1 rfl (lv_at hl 1 rfl) ?_
  obtain ⟨r_1, hc_2, hf⟩ := mm_bd1s hf
  refine mm_callVF (q0 := 0) (ci := 5) (rest := []) C0 lk_X5_98 (ctX5_hasField (a := a) (d := d - 1) (by omega) hc_2) (by omega) rfl hl.1 rfl (mm_cat rfl) dX5_neighbour_2 hP hD hA hS rfl rfl (fun H locs hP hD hS => ?_)
  refine W.eq (g2 := F0 m 5 ls [.int (mm_b r_1)]) rfl ?_
  refine lv_if_ne (tgt := 10) hx hb dX5_neighbour_5 (by decide) (fun c_3 => ?_) (fun c_3 => ?_)
  · have hf := mm_in hf (mm_b1 c_3)
    refine lv_iload_n hx hb dX5_neighbour_10 rfl (lv_at hl 2 rfl) ?_
    refine lv_if_ne (tgt := 37) hx hb dX5_neighbour_11 (by decide) (fun c_4 => ?_) (fun c_4 => ?_)
    · have hf := mm_in hf c_4
      refine lv_iload_n hx hb dX5_neighbour_37 rfl (lv_at hl 2 rfl) ?_
      refine lv_iconst (v := 1) hx hb dX5_neighbour_38 (by decide) ?_
      refine lv_icmp_ne (tgt := 64) hx hb dX5_neighbour_39 (by decide) (fun c_5 => ?_) (fun c_5 => ?_)
      · have hf := mm_in hf c_5
        refine lv_iconst (v := -1) hx hb dX5_neighbour_64 (by decide) ?_
        obtain rfl := mm_inj1 hf
        exact mm_iret C0 hP hD hS dX5_neighbour_65
      · have hf := mm_ip hf c_5
        refine lv_iload_n hx hb dX5_neighbour_42 rfl (lv_at hl 1 rfl) ?_
        refine lv_aload_n hx hb dX5_neighbour_43 rfl (lv_at hl 0 rfl) ?_
        refine mm_get C0 hP iw_X5 0 rfl rfl 1 (by decide) fl_X5_44 rfl dX5_neighbour_44 ?_
        refine lv_iadd hx hb dX5_neighbour_47 ?_
        refine lv_aload_n hx hb dX5_neighbour_48 rfl (lv_at hl 0 rfl) ?_
        obtain ⟨r_6, hc_7, hf⟩ := mm_bd1s hf
        refine mm_callVF (q0 := 0) (ci := 5) (rest := [.int (x1 + v_cols)]) C0 lk_X5_84 (ctX5_fields (a := a) (d := d - 1) (by omega) hc_7) (by omega) rfl hl.1 rfl (mm_cat rfl) dX5_neighbour_49 hP hD hA hS rfl rfl (fun H locs hP hD hS => ?_)
        refine W.eq (g2 := F0 m 52 ls [.int r_6, .int (x1 + v_cols)]) rfl ?_
        refine lv_icmp_ge (tgt := 64) hx hb dX5_neighbour_52 (by decide) (fun c_8 => ?_) (fun c_8 => ?_)
        · have hf := mm_ip hf c_8
          refine lv_iconst (v := -1) hx hb dX5_neighbour_64 (by decide) ?_
          obtain rfl := mm_inj1 hf
          exact mm_iret C0 hP hD hS dX5_neighbour_65
        · have hf := mm_in hf c_8
          refine lv_iload_n hx hb dX5_neighbour_55 rfl (lv_at hl 1 rfl) ?_
          refine lv_aload_n hx hb dX5_neighbour_56 rfl (lv_at hl 0 rfl) ?_
          refine mm_get C0 hP iw_X5 0 rfl rfl 1 (by decide) fl_X5_44 rfl dX5_neighbour_57 ?_
          refine lv_iadd hx hb dX5_neighbour_60 ?_
          refine lv_goto (tgt := 65) hx hb dX5_neighbour_61 (by decide) ?_
          obtain rfl := mm_inj1 hf
          exact mm_iret C0 hP hD hS dX5_neighbour_65
    · have hf := mm_ip hf c_4
      refine lv_iload_n hx hb dX5_neighbour_14 rfl (lv_at hl 1 rfl) ?_
      refine lv_aload_n hx hb dX5_neighbour_15 rfl (lv_at hl 0 rfl) ?_
      refine mm_get C0 hP iw_X5 0 rfl rfl 1 (by decide) fl_X5_44 rfl dX5_neighbour_16 ?_
      obtain ⟨h_9, hf⟩ := mm_cks hf
      refine lv_irem hx hb dX5_neighbour_19 (mm_nzs h_9) ?_
      refine lv_aload_n hx hb dX5_neighbour_20 rfl (lv_at hl 0 rfl) ?_
      refine mm_get C0 hP iw_X5 0 rfl rfl 1 (by decide) fl_X5_44 rfl dX5_neighbour_21 ?_
      refine lv_iconst (v := 1) hx hb dX5_neighbour_24 (by decide) ?_
      refine lv_isub hx hb dX5_neighbour_25 ?_
      refine lv_icmp_ge (tgt := 35) hx hb dX5_neighbour_26 (by decide) (fun c_10 => ?_) (fun c_10 => ?_)
      · have hf := mm_ip hf c_10
        refine lv_iconst (v := -1) hx hb dX5_neighbour_35 (by decide) ?_
        obtain rfl := mm_inj1 hf
        exact mm_iret C0 hP hD hS dX5_neighbour_36
      · have hf := mm_in hf c_10
        refine lv_iload_n hx hb dX5_neighbour_29 rfl (lv_at hl 1 rfl) ?_
        refine lv_iconst (v := 1) hx hb dX5_neighbour_30 (by decide) ?_
        refine lv_iadd hx hb dX5_neighbour_31 ?_
        refine lv_goto (tgt := 36) hx hb dX5_neighbour_32 (by decide) ?_
        obtain rfl := mm_inj1 hf
        exact mm_iret C0 hP hD hS dX5_neighbour_36
  · have hf := mm_ip hf (mm_b0 c_3)
    refine lv_iconst (v := -1) hx hb dX5_neighbour_8 (by decide) ?_
    obtain rfl := mm_inj1 hf
    exact mm_iret C0 hP hD hS dX5_neighbour_9

theorem dX5_placeOf_0 : decode cX5_placeOf 0 = .ok (.aload_n 0, 1) := by decide +kernel
theorem dX5_placeOf_1 : decode cX5_placeOf 1 = .ok (.iload_n 1, 1) := by decide +kernel
theorem dX5_placeOf_2 : decode cX5_placeOf 2 = .ok (.invokevirtual 98, 3) := by decide +kernel
theorem dX5_placeOf_5 : decode cX5_placeOf 5 = .ok (.ifCond .ne 5, 3) := by decide +kernel
theorem dX5_placeOf_8 : decode cX5_placeOf 8 = .ok (.iconst (-1), 1) := by decide +kernel
theorem dX5_placeOf_9 : decode cX5_placeOf 9 = .ok (.ireturn, 1) := by decide +kernel
theorem dX5_placeOf_10 : decode cX5_placeOf 10 = .ok (.iload_n 2, 1) := by decide +kernel
theorem dX5_placeOf_11 : decode cX5_placeOf 11 = .ok (.tableswitch 57 0 3 #[29, 36, 43, 50], 29) := by decide +kernel
theorem dX5_placeOf_40 : decode cX5_placeOf 40 = .ok (.aload_n 0, 1) := by decide +kernel
theorem dX5_placeOf_41 : decode cX5_placeOf 41 = .ok (.getfield 9, 3) := by decide +kernel
theorem dX5_placeOf_44 : decode cX5_placeOf 44 = .ok (.iload_n 1, 1) := by decide +kernel
theorem dX5_placeOf_45 : decode cX5_placeOf 45 = .ok (.iaload, 1) := by decide +kernel
theorem dX5_placeOf_46 : decode cX5_placeOf 46 = .ok (.ireturn, 1) := by decide +kernel
theorem dX5_placeOf_47 : decode cX5_placeOf 47 = .ok (.aload_n 0, 1) := by decide +kernel
theorem dX5_placeOf_48 : decode cX5_placeOf 48 = .ok (.getfield 15, 3) := by decide +kernel
theorem dX5_placeOf_51 : decode cX5_placeOf 51 = .ok (.iload_n 1, 1) := by decide +kernel
theorem dX5_placeOf_52 : decode cX5_placeOf 52 = .ok (.iaload, 1) := by decide +kernel
theorem dX5_placeOf_53 : decode cX5_placeOf 53 = .ok (.ireturn, 1) := by decide +kernel
theorem dX5_placeOf_54 : decode cX5_placeOf 54 = .ok (.aload_n 0, 1) := by decide +kernel
theorem dX5_placeOf_55 : decode cX5_placeOf 55 = .ok (.getfield 18, 3) := by decide +kernel
theorem dX5_placeOf_58 : decode cX5_placeOf 58 = .ok (.iload_n 1, 1) := by decide +kernel
theorem dX5_placeOf_59 : decode cX5_placeOf 59 = .ok (.iaload, 1) := by decide +kernel
theorem dX5_placeOf_60 : decode cX5_placeOf 60 = .ok (.ireturn, 1) := by decide +kernel
theorem dX5_placeOf_61 : decode cX5_placeOf 61 = .ok (.aload_n 0, 1) := by decide +kernel
theorem dX5_placeOf_62 : decode cX5_placeOf 62 = .ok (.getfield 21, 3) := by decide +kernel
theorem dX5_placeOf_65 : decode cX5_placeOf 65 = .ok (.iload_n 1, 1) := by decide +kernel
theorem dX5_placeOf_66 : decode cX5_placeOf 66 = .ok (.iaload, 1) := by decide +kernel
theorem dX5_placeOf_67 : decode cX5_placeOf 67 = .ok (.ireturn, 1) := by decide +kernel
theorem dX5_placeOf_68 : decode cX5_placeOf 68 = .ok (.iconst (-1), 1) := by decide +kernel
theorem dX5_placeOf_69 : decode cX5_placeOf 69 = .ok (.ireturn, 1) := by decide +kernel
def fX5_placeOf (N : Nat) (x1 : Int32) (x2 : Int32) (v_rows : Int32) (v_cols : Int32) (v_rowOf : List Int32) (v_colOf : List Int32) (v_below : List Int32) (v_face : List Int32) : Option (Int32) :=
    mm_bd1 (fX5_hasField N x1 v_rows v_cols) (fun (r_1 : Bool) =>
    if r_1 = false then
    (some ((-1 : Int32)))
    else (if x2 = (0 : Int32) then
    (mm_ck (mm_inb x1 v_rowOf.length) (some ((mm_ig v_rowOf x1))))
    else (if x2 = (1 : Int32) then
    (mm_ck (mm_inb x1 v_colOf.length) (some ((mm_ig v_colOf x1))))
    else (if x2 = (2 : Int32) then
    (mm_ck (mm_inb x1 v_below.length) (some ((mm_ig v_below x1))))
    else (if x2 = (3 : Int32) then
    (mm_ck (mm_inb x1 v_face.length) (some ((mm_ig v_face x1))))
    else (some ((-1 : Int32))))))))

set_option maxHeartbeats 4000000 in
set_option maxRecDepth 100000 in
theorem ctX5_placeOf {l : Launch} {D : va_G} {cI cL cS cH : ClassId} {a : Nat → Nat} {x1 : Int32} {x2 : Int32} {v_rows : Int32} {v_cols : Int32} {v_high : Int32} {v_wide : Int32} {v_folds : Int32} {v_wrong : Int32} {v_more : Int32} {v_rowOf : List Int32} {v_colOf : List Int32} {v_below : List Int32} {v_face : List Int32} {v_worn : List Int32} {v_last : List Int32} {v_bend : List Int32} {v_tall : List Int32} {r : Int32} {N d : Nat} (hd : 3 ≤ d) (hf : fX5_placeOf N x1 x2 v_rows v_cols v_rowOf v_colOf v_below v_face = some r) : mm_Ct l yX5_placeOf cX5_placeOf 3 (some .int) d D (mm_T cI cL cS cH) [.ref (a 0), .int x1, .int x2] (wd_X5 cI cL cS cH a v_rows v_cols v_high v_wide v_folds v_wrong v_more v_rowOf v_colOf v_below v_face v_worn v_last v_bend v_tall) (wd_X5 cI cL cS cH a v_rows v_cols v_high v_wide v_folds v_wrong v_more v_rowOf v_colOf v_below v_face v_worn v_last v_bend v_tall) (some (.int r)) := by
  refine mm_of (by decide) (Nat.le_of_ble_eq_true rfl) ?_
  intro p e s m args below meth c A H locs ls C0 hP hD hA hS hl
  have C0 : mm_Cx p s m args meth c RX5 cX5_placeOf 3 (some .int) D (mm_T cI cL cS cH) A := C0
  obtain ⟨hx, hb, hml, hown, hts, hr, hlocks, hK, hSt⟩ := id C0
  have hl : lv_has ls 3 [(0, .ref (a 0)), (1, .int x1), (2, .int x2)] := hl
  unfold fX5_placeOf at hf
  refine lv_aload_n hx hb dX5_placeOf_0 rfl (lv_at hl 0 rfl) ?_
  refine lv_iload_n hx hb dX5_placeOf_1 rfl (lv_at hl 1 rfl) ?_
  obtain ⟨r_1, hc_2, hf⟩ := mm_bd1s hf
  refine mm_callVF (q0 := 0) (ci := 5) (rest := []) C0 lk_X5_98 (ctX5_hasField (a := a) (d := d - 1) (by omega) hc_2) (by omega) rfl hl.1 rfl (mm_cat rfl) dX5_placeOf_2 hP hD hA hS rfl rfl (fun H locs hP hD hS => ?_)
  refine W.eq (g2 := F0 m 5 ls [.int (mm_b r_1)]) rfl ?_
  refine lv_if_ne (tgt := 10) hx hb dX5_placeOf_5 (by decide) (fun c_3 => ?_) (fun c_3 => ?_)
  · have hf := mm_in hf (mm_b1 c_3)
    refine lv_iload_n hx hb dX5_placeOf_10 rfl (lv_at hl 2 rfl) ?_
    by_cases c_4 : x2 = (0 : Int32)
    · have hf := mm_ip hf c_4
      refine lv_tableIn (off := 29) (tgt := 40) hx hb dX5_placeOf_11 (by rw [c_4]; decide) (by rw [c_4]; decide) (by rw [c_4]; first | done | rfl) (by decide) ?_
      refine lv_aload_n hx hb dX5_placeOf_40 rfl (lv_at hl 0 rfl) ?_
      refine mm_get C0 hP iw_X5 0 rfl rfl 7 (by decide) fl_X5_9 rfl dX5_placeOf_41 ?_
      refine lv_iload_n hx hb dX5_placeOf_44 rfl (lv_at hl 1 rfl) ?_
      obtain ⟨h_5, hf⟩ := mm_cks hf
      refine mm_iald C0 hP 1 rfl h_5 dX5_placeOf_45 ?_
      obtain rfl := mm_inj1 hf
      exact mm_iret C0 hP hD hS dX5_placeOf_46
    · have hf := mm_in hf c_4
      by_cases c_6 : x2 = (1 : Int32)
      · have hf := mm_ip hf c_6
        refine lv_tableIn (off := 36) (tgt := 47) hx hb dX5_placeOf_11 (by rw [c_6]; decide) (by rw [c_6]; decide) (by rw [c_6]; first | done | rfl) (by decide) ?_
        refine lv_aload_n hx hb dX5_placeOf_47 rfl (lv_at hl 0 rfl) ?_
        refine mm_get C0 hP iw_X5 0 rfl rfl 8 (by decide) fl_X5_15 rfl dX5_placeOf_48 ?_
        refine lv_iload_n hx hb dX5_placeOf_51 rfl (lv_at hl 1 rfl) ?_
        obtain ⟨h_7, hf⟩ := mm_cks hf
        refine mm_iald C0 hP 2 rfl h_7 dX5_placeOf_52 ?_
        obtain rfl := mm_inj1 hf
        exact mm_iret C0 hP hD hS dX5_placeOf_53
      · have hf := mm_in hf c_6
        by_cases c_8 : x2 = (2 : Int32)
        · have hf := mm_ip hf c_8
          refine lv_tableIn (off := 43) (tgt := 54) hx hb dX5_placeOf_11 (by rw [c_8]; decide) (by rw [c_8]; decide) (by rw [c_8]; first | done | rfl) (by decide) ?_
          refine lv_aload_n hx hb dX5_placeOf_54 rfl (lv_at hl 0 rfl) ?_
          refine mm_get C0 hP iw_X5 0 rfl rfl 9 (by decide) fl_X5_18 rfl dX5_placeOf_55 ?_
          refine lv_iload_n hx hb dX5_placeOf_58 rfl (lv_at hl 1 rfl) ?_
          obtain ⟨h_9, hf⟩ := mm_cks hf
          refine mm_iald C0 hP 3 rfl h_9 dX5_placeOf_59 ?_
          obtain rfl := mm_inj1 hf
          exact mm_iret C0 hP hD hS dX5_placeOf_60
        · have hf := mm_in hf c_8
          by_cases c_10 : x2 = (3 : Int32)
          · have hf := mm_ip hf c_10
            refine lv_tableIn (off := 50) (tgt := 61) hx hb dX5_placeOf_11 (by rw [c_10]; decide) (by rw [c_10]; decide) (by rw [c_10]; first | done | rfl) (by decide) ?_
            refine lv_aload_n hx hb dX5_placeOf_61 rfl (lv_at hl 0 rfl) ?_
            refine mm_get C0 hP iw_X5 0 rfl rfl 10 (by decide) fl_X5_21 rfl dX5_placeOf_62 ?_
            refine lv_iload_n hx hb dX5_placeOf_65 rfl (lv_at hl 1 rfl) ?_
            obtain ⟨h_11, hf⟩ := mm_cks hf
            refine mm_iald C0 hP 4 rfl h_11 dX5_placeOf_66 ?_
            obtain rfl := mm_inj1 hf
            exact mm_iret C0 hP hD hS dX5_placeOf_67
          · have hf := mm_in hf c_10
            refine lv_tableOut (tgt := 68) hx hb dX5_placeOf_11 (by have nc_4 := lv_neT c_4 (a := 0) (by decide); have nc_6 := lv_neT c_6 (a := 1) (by decide); have nc_8 := lv_neT c_8 (a := 2) (by decide); have nc_10 := lv_neT c_10 (a := 3) (by decide); omega) (by decide) ?_
            refine lv_iconst (v := -1) hx hb dX5_placeOf_68 (by decide) ?_
            obtain rfl := mm_inj1 hf
            exact mm_iret C0 hP hD hS dX5_placeOf_69
  · have hf := mm_ip hf (mm_b0 c_3)
    refine lv_iconst (v := -1) hx hb dX5_placeOf_8 (by decide) ?_
    obtain rfl := mm_inj1 hf
    exact mm_iret C0 hP hD hS dX5_placeOf_9

theorem dX5_heightAt_0 : decode cX5_heightAt 0 = .ok (.iconst 0, 1) := by decide +kernel
theorem dX5_heightAt_1 : decode cX5_heightAt 1 = .ok (.istore_n 3, 1) := by decide +kernel
theorem dX5_heightAt_2 : decode cX5_heightAt 2 = .ok (.iconst 0, 1) := by decide +kernel
theorem dX5_heightAt_3 : decode cX5_heightAt 3 = .ok (.istore 4, 2) := by decide +kernel
theorem dX5_heightAt_5 : decode cX5_heightAt 5 = .ok (.iload 4, 2) := by decide +kernel
theorem dX5_heightAt_7 : decode cX5_heightAt 7 = .ok (.aload_n 0, 1) := by decide +kernel
theorem dX5_heightAt_8 : decode cX5_heightAt 8 = .ok (.invokevirtual 84, 3) := by decide +kernel
theorem dX5_heightAt_11 : decode cX5_heightAt 11 = .ok (.if_icmp .ge 34, 3) := by decide +kernel
theorem dX5_heightAt_14 : decode cX5_heightAt 14 = .ok (.aload_n 0, 1) := by decide +kernel
theorem dX5_heightAt_15 : decode cX5_heightAt 15 = .ok (.getfield 9, 3) := by decide +kernel
theorem dX5_heightAt_18 : decode cX5_heightAt 18 = .ok (.iload 4, 2) := by decide +kernel
theorem dX5_heightAt_20 : decode cX5_heightAt 20 = .ok (.iaload, 1) := by decide +kernel
theorem dX5_heightAt_21 : decode cX5_heightAt 21 = .ok (.iload_n 1, 1) := by decide +kernel
theorem dX5_heightAt_22 : decode cX5_heightAt 22 = .ok (.if_icmp .ne 17, 3) := by decide +kernel
theorem dX5_heightAt_25 : decode cX5_heightAt 25 = .ok (.aload_n 0, 1) := by decide +kernel
theorem dX5_heightAt_26 : decode cX5_heightAt 26 = .ok (.getfield 15, 3) := by decide +kernel
theorem dX5_heightAt_29 : decode cX5_heightAt 29 = .ok (.iload 4, 2) := by decide +kernel
theorem dX5_heightAt_31 : decode cX5_heightAt 31 = .ok (.iaload, 1) := by decide +kernel
theorem dX5_heightAt_32 : decode cX5_heightAt 32 = .ok (.iload_n 2, 1) := by decide +kernel
theorem dX5_heightAt_33 : decode cX5_heightAt 33 = .ok (.if_icmp .ne 6, 3) := by decide +kernel
theorem dX5_heightAt_36 : decode cX5_heightAt 36 = .ok (.iinc 3 1, 3) := by decide +kernel
theorem dX5_heightAt_39 : decode cX5_heightAt 39 = .ok (.iinc 4 1, 3) := by decide +kernel
theorem dX5_heightAt_42 : decode cX5_heightAt 42 = .ok (.goto (-37), 3) := by decide +kernel
theorem dX5_heightAt_45 : decode cX5_heightAt 45 = .ok (.iload_n 3, 1) := by decide +kernel
theorem dX5_heightAt_46 : decode cX5_heightAt 46 = .ok (.ireturn, 1) := by decide +kernel
def fX5_heightAt_39 (N : Nat) (k_5 : Int32 → Int32 → Int32 → Int32 → Int32 → Int32 → List Int32 → List Int32 → Option (Int32)) (x1 : Int32) (x2 : Int32) (x3 : Int32) (x4 : Int32) (v_rows : Int32) (v_cols : Int32) (v_rowOf : List Int32) (v_colOf : List Int32) : Option (Int32) :=
    mm_nm (x4 + (1 : Int32)) (fun (y_9 : Int32) =>
    k_5 x1 x2 x3 y_9 v_rows v_cols v_rowOf v_colOf)

set_option maxHeartbeats 4000000 in
set_option maxRecDepth 100000 in
theorem tX5_heightAt_39 {p : Program} {l : Launch} {e : Env} {s : State} {m : MethodId} {args : Array Value} {below : List Frame} {meth : Method} {c : Code} {D : va_G} {cI cL cS cH : ClassId} {A : Nat → Prop} {d : Nat} {a : Nat → Nat} (hd : 2 ≤ d) (C0 : mm_Cx p s m args meth c RX5 cX5_heightAt 5 (some .int) D (mm_T cI cL cS cH) A) (hA : ∀ q, s.heap.size ≤ q → A q) {v_high : Int32} {v_wide : Int32} {v_folds : Int32} {v_wrong : Int32} {v_more : Int32} {v_below : List Int32} {v_face : List Int32} {v_worn : List Int32} {v_last : List Int32} {v_bend : List Int32} {v_tall : List Int32} {r : Int32} (N : Nat) {k_5 : Int32 → Int32 → Int32 → Int32 → Int32 → Int32 → List Int32 → List Int32 → Option (Int32)} (hk_5 : ∀ (x1 : Int32) (x2 : Int32) (x3 : Int32) (x4 : Int32) (v_rows : Int32) (v_cols : Int32) (v_rowOf : List Int32) (v_colOf : List Int32) (H : Heap) (locs : List Loc) (ls : Array Slot), k_5 x1 x2 x3 x4 v_rows v_cols v_rowOf v_colOf = some r → va_P D mm_cl (wd_X5 cI cL cS cH a v_rows v_cols v_high v_wide v_folds v_wrong v_more v_rowOf v_colOf v_below v_face v_worn v_last v_bend v_tall) H → va_D A (wd_X5 cI cL cS cH a v_rows v_cols v_high v_wide v_folds v_wrong v_more v_rowOf v_colOf v_below v_face v_worn v_last v_bend v_tall) → va_S A s.heap H locs → lv_has ls 5 [(0, .ref (a 0)), (1, .int x1), (2, .int x2), (3, .int x3), (4, .int x4)] → W p l e (mm_rr d) s m args below meth c H locs 0 0 (mm_Z below D A (wd_X5 cI cL cS cH a v_rows v_cols v_high v_wide v_folds v_wrong v_more v_rowOf v_colOf v_below v_face v_worn v_last v_bend v_tall) (some (.int r)) args s) (F0 m 5 ls [])) : ∀ (x1 : Int32) (x2 : Int32) (x3 : Int32) (x4 : Int32) (v_rows : Int32) (v_cols : Int32) (v_rowOf : List Int32) (v_colOf : List Int32) (H : Heap) (locs : List Loc) (ls : Array Slot), fX5_heightAt_39 N k_5 x1 x2 x3 x4 v_rows v_cols v_rowOf v_colOf = some r → va_P D mm_cl (wd_X5 cI cL cS cH a v_rows v_cols v_high v_wide v_folds v_wrong v_more v_rowOf v_colOf v_below v_face v_worn v_last v_bend v_tall) H → va_D A (wd_X5 cI cL cS cH a v_rows v_cols v_high v_wide v_folds v_wrong v_more v_rowOf v_colOf v_below v_face v_worn v_last v_bend v_tall) → va_S A s.heap H locs → lv_has ls 5 [(0, .ref (a 0)), (1, .int x1), (2, .int x2), (3, .int x3), (4, .int x4)] → W p l e (mm_rr d) s m args below meth c H locs 0 0 (mm_Z below D A (wd_X5 cI cL cS cH a v_rows v_cols v_high v_wide v_folds v_wrong v_more v_rowOf v_colOf v_below v_face v_worn v_last v_bend v_tall) (some (.int r)) args s) (F0 m 39 ls []) := by
  obtain ⟨hx, hb, hml, hown, hts, hr, hlocks, hK, hSt⟩ := id C0
  intro x1 x2 x3 x4 v_rows v_cols v_rowOf v_colOf H locs ls hf hP hD hS hl
  unfold fX5_heightAt_39 at hf
  obtain ⟨y_9, ey_9⟩ : ∃ z : Int32, z = x4 + (1 : Int32) := ⟨_, rfl⟩
  have hf := mm_nms hf ey_9
  refine lv_iinc (v := y_9) (lv' := [(4, .int y_9), (0, .ref (a 0)), (1, .int x1), (2, .int x2), (3, .int x3)]) hx hb dX5_heightAt_39 hl (k := 4) rfl (by rw [ey_9]; rfl) (by decide) rfl (fun ls hl => ?_)
  refine lv_goto (tgt := 5) hx hb dX5_heightAt_42 (by decide) ?_
  exact hk_5 _ _ _ _ _ _ _ _ H locs ls hf hP hD hS (lv_sub hl [1, 2, 3, 4, 0] rfl)

def fX5_heightAt_5 (N : Nat)  : Nat → Int32 → Int32 → Int32 → Int32 → Int32 → Int32 → List Int32 → List Int32 → Option (Int32)
  | 0 => fun _ _ _ _ _ _ _ _ => none
  | n + 1 => fun x1 x2 x3 x4 v_rows v_cols v_rowOf v_colOf =>
    mm_bd1 (fX5_fields N v_rows v_cols) (fun (r_1 : Int32) =>
    if r_1 ≤ x4 then
    (some (x3))
    else (mm_ck (mm_inb x4 v_rowOf.length) (if (mm_ig v_rowOf x4) = x1 then
    (mm_ck (mm_inb x4 v_colOf.length) (if (mm_ig v_colOf x4) = x2 then
    (mm_nm (x3 + (1 : Int32)) (fun (y_8 : Int32) =>
    fX5_heightAt_39 N (fX5_heightAt_5 N n) x1 x2 y_8 x4 v_rows v_cols v_rowOf v_colOf))
    else (fX5_heightAt_39 N (fX5_heightAt_5 N n) x1 x2 x3 x4 v_rows v_cols v_rowOf v_colOf)))
    else (fX5_heightAt_39 N (fX5_heightAt_5 N n) x1 x2 x3 x4 v_rows v_cols v_rowOf v_colOf))))

set_option maxHeartbeats 4000000 in
set_option maxRecDepth 100000 in
theorem tX5_heightAt_5 {p : Program} {l : Launch} {e : Env} {s : State} {m : MethodId} {args : Array Value} {below : List Frame} {meth : Method} {c : Code} {D : va_G} {cI cL cS cH : ClassId} {A : Nat → Prop} {d : Nat} {a : Nat → Nat} (hd : 2 ≤ d) (C0 : mm_Cx p s m args meth c RX5 cX5_heightAt 5 (some .int) D (mm_T cI cL cS cH) A) (hA : ∀ q, s.heap.size ≤ q → A q) {v_high : Int32} {v_wide : Int32} {v_folds : Int32} {v_wrong : Int32} {v_more : Int32} {v_below : List Int32} {v_face : List Int32} {v_worn : List Int32} {v_last : List Int32} {v_bend : List Int32} {v_tall : List Int32} {r : Int32} (N : Nat)  : ∀ (n : Nat), ∀ (x1 : Int32) (x2 : Int32) (x3 : Int32) (x4 : Int32) (v_rows : Int32) (v_cols : Int32) (v_rowOf : List Int32) (v_colOf : List Int32) (H : Heap) (locs : List Loc) (ls : Array Slot), fX5_heightAt_5 N n x1 x2 x3 x4 v_rows v_cols v_rowOf v_colOf = some r → va_P D mm_cl (wd_X5 cI cL cS cH a v_rows v_cols v_high v_wide v_folds v_wrong v_more v_rowOf v_colOf v_below v_face v_worn v_last v_bend v_tall) H → va_D A (wd_X5 cI cL cS cH a v_rows v_cols v_high v_wide v_folds v_wrong v_more v_rowOf v_colOf v_below v_face v_worn v_last v_bend v_tall) → va_S A s.heap H locs → lv_has ls 5 [(0, .ref (a 0)), (1, .int x1), (2, .int x2), (3, .int x3), (4, .int x4)] → W p l e (mm_rr d) s m args below meth c H locs 0 0 (mm_Z below D A (wd_X5 cI cL cS cH a v_rows v_cols v_high v_wide v_folds v_wrong v_more v_rowOf v_colOf v_below v_face v_worn v_last v_bend v_tall) (some (.int r)) args s) (F0 m 5 ls []) := by
  obtain ⟨hx, hb, hml, hown, hts, hr, hlocks, hK, hSt⟩ := id C0
  intro n
  induction n with
  | zero =>
    intro x1 x2 x3 x4 v_rows v_cols v_rowOf v_colOf H locs ls hf
    cases (show none = some _ from hf)
  | succ n ih =>
    intro x1 x2 x3 x4 v_rows v_cols v_rowOf v_colOf H locs ls hf hP hD hS hl
    unfold fX5_heightAt_5 at hf
    refine lv_iload hx hb dX5_heightAt_5 (lv_at hl 4 rfl) ?_
    refine lv_aload_n hx hb dX5_heightAt_7 rfl (lv_at hl 0 rfl) ?_
    obtain ⟨r_1, hc_2, hf⟩ := mm_bd1s hf
    refine mm_callVF (q0 := 0) (ci := 5) (rest := [.int x4]) C0 lk_X5_84 (ctX5_fields (a := a) (d := d - 1) (by omega) hc_2) (by omega) rfl hl.1 rfl (mm_cat rfl) dX5_heightAt_8 hP hD hA hS rfl rfl (fun H locs hP hD hS => ?_)
    refine W.eq (g2 := F0 m 11 ls [.int r_1, .int x4]) rfl ?_
    refine lv_icmp_ge (tgt := 45) hx hb dX5_heightAt_11 (by decide) (fun c_3 => ?_) (fun c_3 => ?_)
    · have hf := mm_ip hf c_3
      refine lv_iload_n hx hb dX5_heightAt_45 rfl (lv_at hl 3 rfl) ?_
      obtain rfl := mm_inj1 hf
      exact mm_iret C0 hP hD hS dX5_heightAt_46
    · have hf := mm_in hf c_3
      refine lv_aload_n hx hb dX5_heightAt_14 rfl (lv_at hl 0 rfl) ?_
      refine mm_get C0 hP iw_X5 0 rfl rfl 7 (by decide) fl_X5_9 rfl dX5_heightAt_15 ?_
      refine lv_iload hx hb dX5_heightAt_18 (lv_at hl 4 rfl) ?_
      obtain ⟨h_4, hf⟩ := mm_cks hf
      refine mm_iald C0 hP 1 rfl h_4 dX5_heightAt_20 ?_
      refine lv_iload_n hx hb dX5_heightAt_21 rfl (lv_at hl 1 rfl) ?_
      refine lv_icmp_ne (tgt := 39) hx hb dX5_heightAt_22 (by decide) (fun c_5 => ?_) (fun c_5 => ?_)
      · have hf := mm_in hf c_5
        exact tX5_heightAt_39 hd C0 hA N ih _ _ _ _ _ _ _ _ H locs ls hf hP hD hS (lv_sub hl [0, 1, 2, 3, 4] rfl)
      · have hf := mm_ip hf c_5
        refine lv_aload_n hx hb dX5_heightAt_25 rfl (lv_at hl 0 rfl) ?_
        refine mm_get C0 hP iw_X5 0 rfl rfl 8 (by decide) fl_X5_15 rfl dX5_heightAt_26 ?_
        refine lv_iload hx hb dX5_heightAt_29 (lv_at hl 4 rfl) ?_
        obtain ⟨h_6, hf⟩ := mm_cks hf
        refine mm_iald C0 hP 2 rfl h_6 dX5_heightAt_31 ?_
        refine lv_iload_n hx hb dX5_heightAt_32 rfl (lv_at hl 2 rfl) ?_
        refine lv_icmp_ne (tgt := 39) hx hb dX5_heightAt_33 (by decide) (fun c_7 => ?_) (fun c_7 => ?_)
        · have hf := mm_in hf c_7
          exact tX5_heightAt_39 hd C0 hA N ih _ _ _ _ _ _ _ _ H locs ls hf hP hD hS (lv_sub hl [0, 1, 2, 3, 4] rfl)
        · have hf := mm_ip hf c_7
          obtain ⟨y_8, ey_8⟩ : ∃ z : Int32, z = x3 + (1 : Int32) := ⟨_, rfl⟩
          have hf := mm_nms hf ey_8
          refine lv_iinc (v := y_8) (lv' := [(3, .int y_8), (0, .ref (a 0)), (1, .int x1), (2, .int x2), (4, .int x4)]) hx hb dX5_heightAt_36 hl (k := 3) rfl (by rw [ey_8]; rfl) (by decide) rfl (fun ls hl => ?_)
          exact tX5_heightAt_39 hd C0 hA N ih _ _ _ _ _ _ _ _ H locs ls hf hP hD hS (lv_sub hl [1, 2, 3, 0, 4] rfl)

def fX5_heightAt (N : Nat) (x1 : Int32) (x2 : Int32) (v_rows : Int32) (v_cols : Int32) (v_rowOf : List Int32) (v_colOf : List Int32) : Option (Int32) :=
    fX5_heightAt_5 N N x1 x2 (0 : Int32) (0 : Int32) v_rows v_cols v_rowOf v_colOf

set_option maxHeartbeats 4000000 in
set_option maxRecDepth 100000 in
theorem ctX5_heightAt {l : Launch} {D : va_G} {cI cL cS cH : ClassId} {a : Nat → Nat} {x1 : Int32} {x2 : Int32} {v_rows : Int32} {v_cols : Int32} {v_high : Int32} {v_wide : Int32} {v_folds : Int32} {v_wrong : Int32} {v_more : Int32} {v_rowOf : List Int32} {v_colOf : List Int32} {v_below : List Int32} {v_face : List Int32} {v_worn : List Int32} {v_last : List Int32} {v_bend : List Int32} {v_tall : List Int32} {r : Int32} {N d : Nat} (hd : 2 ≤ d) (hf : fX5_heightAt N x1 x2 v_rows v_cols v_rowOf v_colOf = some r) : mm_Ct l yX5_heightAt cX5_heightAt 5 (some .int) d D (mm_T cI cL cS cH) [.ref (a 0), .int x1, .int x2] (wd_X5 cI cL cS cH a v_rows v_cols v_high v_wide v_folds v_wrong v_more v_rowOf v_colOf v_below v_face v_worn v_last v_bend v_tall) (wd_X5 cI cL cS cH a v_rows v_cols v_high v_wide v_folds v_wrong v_more v_rowOf v_colOf v_below v_face v_worn v_last v_bend v_tall) (some (.int r)) := by
  refine mm_of (by decide) (Nat.le_of_ble_eq_true rfl) ?_
  intro p e s m args below meth c A H locs ls C0 hP hD hA hS hl
  have C0 : mm_Cx p s m args meth c RX5 cX5_heightAt 5 (some .int) D (mm_T cI cL cS cH) A := C0
  obtain ⟨hx, hb, hml, hown, hts, hr, hlocks, hK, hSt⟩ := id C0
  have hl : lv_has ls 5 [(0, .ref (a 0)), (1, .int x1), (2, .int x2)] := hl
  unfold fX5_heightAt at hf
  refine lv_iconst (v := 0) hx hb dX5_heightAt_0 (by decide) ?_
  refine lv_istore_n (lv' := [(3, .int (0 : Int32)), (0, .ref (a 0)), (1, .int x1), (2, .int x2)]) hx hb dX5_heightAt_1 rfl hl (by decide) rfl (fun ls hl => ?_)
  refine lv_iconst (v := 0) hx hb dX5_heightAt_2 (by decide) ?_
  refine lv_istore (lv' := [(4, .int (0 : Int32)), (3, .int (0 : Int32)), (0, .ref (a 0)), (1, .int x1), (2, .int x2)]) hx hb dX5_heightAt_3 hl (by decide) rfl (fun ls hl => ?_)
  exact tX5_heightAt_5 hd C0 hA N  N _ _ _ _ _ _ _ _ H locs ls hf hP hD hS (lv_sub hl [2, 3, 4, 1, 0] rfl)

theorem dX5_highestPile_0 : decode cX5_highestPile 0 = .ok (.iconst 0, 1) := by decide +kernel
theorem dX5_highestPile_1 : decode cX5_highestPile 1 = .ok (.istore_n 1, 1) := by decide +kernel
theorem dX5_highestPile_2 : decode cX5_highestPile 2 = .ok (.iconst 0, 1) := by decide +kernel
theorem dX5_highestPile_3 : decode cX5_highestPile 3 = .ok (.istore_n 2, 1) := by decide +kernel
theorem dX5_highestPile_4 : decode cX5_highestPile 4 = .ok (.iload_n 2, 1) := by decide +kernel
theorem dX5_highestPile_5 : decode cX5_highestPile 5 = .ok (.aload_n 0, 1) := by decide +kernel
theorem dX5_highestPile_6 : decode cX5_highestPile 6 = .ok (.invokevirtual 84, 3) := by decide +kernel
theorem dX5_highestPile_9 : decode cX5_highestPile 9 = .ok (.if_icmp .ge 22, 3) := by decide +kernel
theorem dX5_highestPile_12 : decode cX5_highestPile 12 = .ok (.iload_n 1, 1) := by decide +kernel
theorem dX5_highestPile_13 : decode cX5_highestPile 13 = .ok (.aload_n 0, 1) := by decide +kernel
theorem dX5_highestPile_14 : decode cX5_highestPile 14 = .ok (.getfield 18, 3) := by decide +kernel
theorem dX5_highestPile_17 : decode cX5_highestPile 17 = .ok (.iload_n 2, 1) := by decide +kernel
theorem dX5_highestPile_18 : decode cX5_highestPile 18 = .ok (.iaload, 1) := by decide +kernel
theorem dX5_highestPile_19 : decode cX5_highestPile 19 = .ok (.iconst 1, 1) := by decide +kernel
theorem dX5_highestPile_20 : decode cX5_highestPile 20 = .ok (.iadd, 1) := by decide +kernel
theorem dX5_highestPile_21 : decode cX5_highestPile 21 = .ok (.invokestatic 92, 3) := by decide +kernel
theorem dX5_highestPile_24 : decode cX5_highestPile 24 = .ok (.istore_n 1, 1) := by decide +kernel
theorem dX5_highestPile_25 : decode cX5_highestPile 25 = .ok (.iinc 2 1, 3) := by decide +kernel
theorem dX5_highestPile_28 : decode cX5_highestPile 28 = .ok (.goto (-24), 3) := by decide +kernel
theorem dX5_highestPile_31 : decode cX5_highestPile 31 = .ok (.iload_n 1, 1) := by decide +kernel
theorem dX5_highestPile_32 : decode cX5_highestPile 32 = .ok (.ireturn, 1) := by decide +kernel
def fX5_highestPile_4 (N : Nat)  : Nat → Int32 → Int32 → Int32 → Int32 → List Int32 → Option (Int32)
  | 0 => fun _ _ _ _ _ => none
  | n + 1 => fun x1 x2 v_rows v_cols v_below =>
    mm_bd1 (fX5_fields N v_rows v_cols) (fun (r_1 : Int32) =>
    if r_1 ≤ x2 then
    (some (x1))
    else (mm_ck (mm_inb x2 v_below.length) (mm_nm ((mm_max x1 ((mm_ig v_below x2) + (1 : Int32)))) (fun (y_5 : Int32) =>
    mm_nm (x2 + (1 : Int32)) (fun (y_6 : Int32) =>
    fX5_highestPile_4 N n y_5 y_6 v_rows v_cols v_below)))))

set_option maxHeartbeats 4000000 in
set_option maxRecDepth 100000 in
theorem tX5_highestPile_4 {p : Program} {l : Launch} {e : Env} {s : State} {m : MethodId} {args : Array Value} {below : List Frame} {meth : Method} {c : Code} {D : va_G} {cI cL cS cH : ClassId} {A : Nat → Prop} {d : Nat} {a : Nat → Nat} (hd : 2 ≤ d) (C0 : mm_Cx p s m args meth c RX5 cX5_highestPile 3 (some .int) D (mm_T cI cL cS cH) A) (hA : ∀ q, s.heap.size ≤ q → A q) {v_high : Int32} {v_wide : Int32} {v_folds : Int32} {v_wrong : Int32} {v_more : Int32} {v_rowOf : List Int32} {v_colOf : List Int32} {v_face : List Int32} {v_worn : List Int32} {v_last : List Int32} {v_bend : List Int32} {v_tall : List Int32} {r : Int32} (N : Nat)  : ∀ (n : Nat), ∀ (x1 : Int32) (x2 : Int32) (v_rows : Int32) (v_cols : Int32) (v_below : List Int32) (H : Heap) (locs : List Loc) (ls : Array Slot), fX5_highestPile_4 N n x1 x2 v_rows v_cols v_below = some r → va_P D mm_cl (wd_X5 cI cL cS cH a v_rows v_cols v_high v_wide v_folds v_wrong v_more v_rowOf v_colOf v_below v_face v_worn v_last v_bend v_tall) H → va_D A (wd_X5 cI cL cS cH a v_rows v_cols v_high v_wide v_folds v_wrong v_more v_rowOf v_colOf v_below v_face v_worn v_last v_bend v_tall) → va_S A s.heap H locs → lv_has ls 3 [(0, .ref (a 0)), (1, .int x1), (2, .int x2)] → W p l e (mm_rr d) s m args below meth c H locs 0 0 (mm_Z below D A (wd_X5 cI cL cS cH a v_rows v_cols v_high v_wide v_folds v_wrong v_more v_rowOf v_colOf v_below v_face v_worn v_last v_bend v_tall) (some (.int r)) args s) (F0 m 4 ls []) := by
  obtain ⟨hx, hb, hml, hown, hts, hr, hlocks, hK, hSt⟩ := id C0
  intro n
  induction n with
  | zero =>
    intro x1 x2 v_rows v_cols v_below H locs ls hf
    cases (show none = some _ from hf)
  | succ n ih =>
    intro x1 x2 v_rows v_cols v_below H locs ls hf hP hD hS hl
    unfold fX5_highestPile_4 at hf
    refine lv_iload_n hx hb dX5_highestPile_4 rfl (lv_at hl 2 rfl) ?_
    refine lv_aload_n hx hb dX5_highestPile_5 rfl (lv_at hl 0 rfl) ?_
    obtain ⟨r_1, hc_2, hf⟩ := mm_bd1s hf
    refine mm_callVF (q0 := 0) (ci := 5) (rest := [.int x2]) C0 lk_X5_84 (ctX5_fields (a := a) (d := d - 1) (by omega) hc_2) (by omega) rfl hl.1 rfl (mm_cat rfl) dX5_highestPile_6 hP hD hA hS rfl rfl (fun H locs hP hD hS => ?_)
    refine W.eq (g2 := F0 m 9 ls [.int r_1, .int x2]) rfl ?_
    refine lv_icmp_ge (tgt := 31) hx hb dX5_highestPile_9 (by decide) (fun c_3 => ?_) (fun c_3 => ?_)
    · have hf := mm_ip hf c_3
      refine lv_iload_n hx hb dX5_highestPile_31 rfl (lv_at hl 1 rfl) ?_
      obtain rfl := mm_inj1 hf
      exact mm_iret C0 hP hD hS dX5_highestPile_32
    · have hf := mm_in hf c_3
      refine lv_iload_n hx hb dX5_highestPile_12 rfl (lv_at hl 1 rfl) ?_
      refine lv_aload_n hx hb dX5_highestPile_13 rfl (lv_at hl 0 rfl) ?_
      refine mm_get C0 hP iw_X5 0 rfl rfl 9 (by decide) fl_X5_18 rfl dX5_highestPile_14 ?_
      refine lv_iload_n hx hb dX5_highestPile_17 rfl (lv_at hl 2 rfl) ?_
      obtain ⟨h_4, hf⟩ := mm_cks hf
      refine mm_iald C0 hP 3 rfl h_4 dX5_highestPile_18 ?_
      refine lv_iconst (v := 1) hx hb dX5_highestPile_19 (by decide) ?_
      refine lv_iadd hx hb dX5_highestPile_20 ?_
      refine mm_mmax C0 lm_X5_92 (by omega) hl.1 (mm_cat rfl) dX5_highestPile_21 ?_
      refine lv_topi (fun y_5 ey_5 => ?_)
      have hf := mm_nms hf ey_5
      refine lv_istore_n (lv' := [(1, .int y_5), (0, .ref (a 0)), (2, .int x2)]) hx hb dX5_highestPile_24 rfl hl (by decide) rfl (fun ls hl => ?_)
      obtain ⟨y_6, ey_6⟩ : ∃ z : Int32, z = x2 + (1 : Int32) := ⟨_, rfl⟩
      have hf := mm_nms hf ey_6
      refine lv_iinc (v := y_6) (lv' := [(2, .int y_6), (1, .int y_5), (0, .ref (a 0))]) hx hb dX5_highestPile_25 hl (k := 2) rfl (by rw [ey_6]; rfl) (by decide) rfl (fun ls hl => ?_)
      refine lv_goto (tgt := 4) hx hb dX5_highestPile_28 (by decide) ?_
      exact ih _ _ _ _ _ H locs ls hf hP hD hS (lv_sub hl [2, 1, 0] rfl)

def fX5_highestPile (N : Nat) (v_rows : Int32) (v_cols : Int32) (v_below : List Int32) : Option (Int32) :=
    fX5_highestPile_4 N N (0 : Int32) (0 : Int32) v_rows v_cols v_below

set_option maxHeartbeats 4000000 in
set_option maxRecDepth 100000 in
theorem ctX5_highestPile {l : Launch} {D : va_G} {cI cL cS cH : ClassId} {a : Nat → Nat}  {v_rows : Int32} {v_cols : Int32} {v_high : Int32} {v_wide : Int32} {v_folds : Int32} {v_wrong : Int32} {v_more : Int32} {v_rowOf : List Int32} {v_colOf : List Int32} {v_below : List Int32} {v_face : List Int32} {v_worn : List Int32} {v_last : List Int32} {v_bend : List Int32} {v_tall : List Int32} {r : Int32} {N d : Nat} (hd : 2 ≤ d) (hf : fX5_highestPile N v_rows v_cols v_below = some r) : mm_Ct l yX5_highestPile cX5_highestPile 3 (some .int) d D (mm_T cI cL cS cH) [.ref (a 0)] (wd_X5 cI cL cS cH a v_rows v_cols v_high v_wide v_folds v_wrong v_more v_rowOf v_colOf v_below v_face v_worn v_last v_bend v_tall) (wd_X5 cI cL cS cH a v_rows v_cols v_high v_wide v_folds v_wrong v_more v_rowOf v_colOf v_below v_face v_worn v_last v_bend v_tall) (some (.int r)) := by
  refine mm_of (by decide) (Nat.le_of_ble_eq_true rfl) ?_
  intro p e s m args below meth c A H locs ls C0 hP hD hA hS hl
  have C0 : mm_Cx p s m args meth c RX5 cX5_highestPile 3 (some .int) D (mm_T cI cL cS cH) A := C0
  obtain ⟨hx, hb, hml, hown, hts, hr, hlocks, hK, hSt⟩ := id C0
  have hl : lv_has ls 3 [(0, .ref (a 0))] := hl
  unfold fX5_highestPile at hf
  refine lv_iconst (v := 0) hx hb dX5_highestPile_0 (by decide) ?_
  refine lv_istore_n (lv' := [(1, .int (0 : Int32)), (0, .ref (a 0))]) hx hb dX5_highestPile_1 rfl hl (by decide) rfl (fun ls hl => ?_)
  refine lv_iconst (v := 0) hx hb dX5_highestPile_2 (by decide) ?_
  refine lv_istore_n (lv' := [(2, .int (0 : Int32)), (1, .int (0 : Int32)), (0, .ref (a 0))]) hx hb dX5_highestPile_3 rfl hl (by decide) rfl (fun ls hl => ?_)
  exact tX5_highestPile_4 hd C0 hA N  N _ _ _ _ _ H locs ls hf hP hD hS (lv_sub hl [2, 1, 0] rfl)

theorem dX5_fieldAt_0 : decode cX5_fieldAt 0 = .ok (.iconst 0, 1) := by decide +kernel
theorem dX5_fieldAt_1 : decode cX5_fieldAt 1 = .ok (.istore 4, 2) := by decide +kernel
theorem dX5_fieldAt_3 : decode cX5_fieldAt 3 = .ok (.iload 4, 2) := by decide +kernel
theorem dX5_fieldAt_5 : decode cX5_fieldAt 5 = .ok (.aload_n 0, 1) := by decide +kernel
theorem dX5_fieldAt_6 : decode cX5_fieldAt 6 = .ok (.invokevirtual 84, 3) := by decide +kernel
theorem dX5_fieldAt_9 : decode cX5_fieldAt 9 = .ok (.if_icmp .ge 45, 3) := by decide +kernel
theorem dX5_fieldAt_12 : decode cX5_fieldAt 12 = .ok (.aload_n 0, 1) := by decide +kernel
theorem dX5_fieldAt_13 : decode cX5_fieldAt 13 = .ok (.getfield 9, 3) := by decide +kernel
theorem dX5_fieldAt_16 : decode cX5_fieldAt 16 = .ok (.iload 4, 2) := by decide +kernel
theorem dX5_fieldAt_18 : decode cX5_fieldAt 18 = .ok (.iaload, 1) := by decide +kernel
theorem dX5_fieldAt_19 : decode cX5_fieldAt 19 = .ok (.iload_n 1, 1) := by decide +kernel
theorem dX5_fieldAt_20 : decode cX5_fieldAt 20 = .ok (.if_icmp .ne 28, 3) := by decide +kernel
theorem dX5_fieldAt_23 : decode cX5_fieldAt 23 = .ok (.aload_n 0, 1) := by decide +kernel
theorem dX5_fieldAt_24 : decode cX5_fieldAt 24 = .ok (.getfield 15, 3) := by decide +kernel
theorem dX5_fieldAt_27 : decode cX5_fieldAt 27 = .ok (.iload 4, 2) := by decide +kernel
theorem dX5_fieldAt_29 : decode cX5_fieldAt 29 = .ok (.iaload, 1) := by decide +kernel
theorem dX5_fieldAt_30 : decode cX5_fieldAt 30 = .ok (.iload_n 2, 1) := by decide +kernel
theorem dX5_fieldAt_31 : decode cX5_fieldAt 31 = .ok (.if_icmp .ne 17, 3) := by decide +kernel
theorem dX5_fieldAt_34 : decode cX5_fieldAt 34 = .ok (.aload_n 0, 1) := by decide +kernel
theorem dX5_fieldAt_35 : decode cX5_fieldAt 35 = .ok (.getfield 18, 3) := by decide +kernel
theorem dX5_fieldAt_38 : decode cX5_fieldAt 38 = .ok (.iload 4, 2) := by decide +kernel
theorem dX5_fieldAt_40 : decode cX5_fieldAt 40 = .ok (.iaload, 1) := by decide +kernel
theorem dX5_fieldAt_41 : decode cX5_fieldAt 41 = .ok (.iload_n 3, 1) := by decide +kernel
theorem dX5_fieldAt_42 : decode cX5_fieldAt 42 = .ok (.if_icmp .ne 6, 3) := by decide +kernel
theorem dX5_fieldAt_45 : decode cX5_fieldAt 45 = .ok (.iload 4, 2) := by decide +kernel
theorem dX5_fieldAt_47 : decode cX5_fieldAt 47 = .ok (.ireturn, 1) := by decide +kernel
theorem dX5_fieldAt_48 : decode cX5_fieldAt 48 = .ok (.iinc 4 1, 3) := by decide +kernel
theorem dX5_fieldAt_51 : decode cX5_fieldAt 51 = .ok (.goto (-48), 3) := by decide +kernel
theorem dX5_fieldAt_54 : decode cX5_fieldAt 54 = .ok (.iconst (-1), 1) := by decide +kernel
theorem dX5_fieldAt_55 : decode cX5_fieldAt 55 = .ok (.ireturn, 1) := by decide +kernel
def fX5_fieldAt_48 (N : Nat) (k_3 : Int32 → Int32 → Int32 → Int32 → Int32 → Int32 → List Int32 → List Int32 → List Int32 → Option (Int32)) (x1 : Int32) (x2 : Int32) (x3 : Int32) (x4 : Int32) (v_rows : Int32) (v_cols : Int32) (v_rowOf : List Int32) (v_colOf : List Int32) (v_below : List Int32) : Option (Int32) :=
    mm_nm (x4 + (1 : Int32)) (fun (y_10 : Int32) =>
    k_3 x1 x2 x3 y_10 v_rows v_cols v_rowOf v_colOf v_below)

set_option maxHeartbeats 4000000 in
set_option maxRecDepth 100000 in
theorem tX5_fieldAt_48 {p : Program} {l : Launch} {e : Env} {s : State} {m : MethodId} {args : Array Value} {below : List Frame} {meth : Method} {c : Code} {D : va_G} {cI cL cS cH : ClassId} {A : Nat → Prop} {d : Nat} {a : Nat → Nat} (hd : 2 ≤ d) (C0 : mm_Cx p s m args meth c RX5 cX5_fieldAt 5 (some .int) D (mm_T cI cL cS cH) A) (hA : ∀ q, s.heap.size ≤ q → A q) {v_high : Int32} {v_wide : Int32} {v_folds : Int32} {v_wrong : Int32} {v_more : Int32} {v_face : List Int32} {v_worn : List Int32} {v_last : List Int32} {v_bend : List Int32} {v_tall : List Int32} {r : Int32} (N : Nat) {k_3 : Int32 → Int32 → Int32 → Int32 → Int32 → Int32 → List Int32 → List Int32 → List Int32 → Option (Int32)} (hk_3 : ∀ (x1 : Int32) (x2 : Int32) (x3 : Int32) (x4 : Int32) (v_rows : Int32) (v_cols : Int32) (v_rowOf : List Int32) (v_colOf : List Int32) (v_below : List Int32) (H : Heap) (locs : List Loc) (ls : Array Slot), k_3 x1 x2 x3 x4 v_rows v_cols v_rowOf v_colOf v_below = some r → va_P D mm_cl (wd_X5 cI cL cS cH a v_rows v_cols v_high v_wide v_folds v_wrong v_more v_rowOf v_colOf v_below v_face v_worn v_last v_bend v_tall) H → va_D A (wd_X5 cI cL cS cH a v_rows v_cols v_high v_wide v_folds v_wrong v_more v_rowOf v_colOf v_below v_face v_worn v_last v_bend v_tall) → va_S A s.heap H locs → lv_has ls 5 [(0, .ref (a 0)), (1, .int x1), (2, .int x2), (3, .int x3), (4, .int x4)] → W p l e (mm_rr d) s m args below meth c H locs 0 0 (mm_Z below D A (wd_X5 cI cL cS cH a v_rows v_cols v_high v_wide v_folds v_wrong v_more v_rowOf v_colOf v_below v_face v_worn v_last v_bend v_tall) (some (.int r)) args s) (F0 m 3 ls [])) : ∀ (x1 : Int32) (x2 : Int32) (x3 : Int32) (x4 : Int32) (v_rows : Int32) (v_cols : Int32) (v_rowOf : List Int32) (v_colOf : List Int32) (v_below : List Int32) (H : Heap) (locs : List Loc) (ls : Array Slot), fX5_fieldAt_48 N k_3 x1 x2 x3 x4 v_rows v_cols v_rowOf v_colOf v_below = some r → va_P D mm_cl (wd_X5 cI cL cS cH a v_rows v_cols v_high v_wide v_folds v_wrong v_more v_rowOf v_colOf v_below v_face v_worn v_last v_bend v_tall) H → va_D A (wd_X5 cI cL cS cH a v_rows v_cols v_high v_wide v_folds v_wrong v_more v_rowOf v_colOf v_below v_face v_worn v_last v_bend v_tall) → va_S A s.heap H locs → lv_has ls 5 [(0, .ref (a 0)), (1, .int x1), (2, .int x2), (3, .int x3), (4, .int x4)] → W p l e (mm_rr d) s m args below meth c H locs 0 0 (mm_Z below D A (wd_X5 cI cL cS cH a v_rows v_cols v_high v_wide v_folds v_wrong v_more v_rowOf v_colOf v_below v_face v_worn v_last v_bend v_tall) (some (.int r)) args s) (F0 m 48 ls []) := by
  obtain ⟨hx, hb, hml, hown, hts, hr, hlocks, hK, hSt⟩ := id C0
  intro x1 x2 x3 x4 v_rows v_cols v_rowOf v_colOf v_below H locs ls hf hP hD hS hl
  unfold fX5_fieldAt_48 at hf
  obtain ⟨y_10, ey_10⟩ : ∃ z : Int32, z = x4 + (1 : Int32) := ⟨_, rfl⟩
  have hf := mm_nms hf ey_10
  refine lv_iinc (v := y_10) (lv' := [(4, .int y_10), (0, .ref (a 0)), (1, .int x1), (2, .int x2), (3, .int x3)]) hx hb dX5_fieldAt_48 hl (k := 4) rfl (by rw [ey_10]; rfl) (by decide) rfl (fun ls hl => ?_)
  refine lv_goto (tgt := 3) hx hb dX5_fieldAt_51 (by decide) ?_
  exact hk_3 _ _ _ _ _ _ _ _ _ H locs ls hf hP hD hS (lv_sub hl [1, 2, 3, 4, 0] rfl)

def fX5_fieldAt_3 (N : Nat)  : Nat → Int32 → Int32 → Int32 → Int32 → Int32 → Int32 → List Int32 → List Int32 → List Int32 → Option (Int32)
  | 0 => fun _ _ _ _ _ _ _ _ _ => none
  | n + 1 => fun x1 x2 x3 x4 v_rows v_cols v_rowOf v_colOf v_below =>
    mm_bd1 (fX5_fields N v_rows v_cols) (fun (r_1 : Int32) =>
    if r_1 ≤ x4 then
    (some ((-1 : Int32)))
    else (mm_ck (mm_inb x4 v_rowOf.length) (if (mm_ig v_rowOf x4) = x1 then
    (mm_ck (mm_inb x4 v_colOf.length) (if (mm_ig v_colOf x4) = x2 then
    (mm_ck (mm_inb x4 v_below.length) (if (mm_ig v_below x4) = x3 then
    (some (x4))
    else (fX5_fieldAt_48 N (fX5_fieldAt_3 N n) x1 x2 x3 x4 v_rows v_cols v_rowOf v_colOf v_below)))
    else (fX5_fieldAt_48 N (fX5_fieldAt_3 N n) x1 x2 x3 x4 v_rows v_cols v_rowOf v_colOf v_below)))
    else (fX5_fieldAt_48 N (fX5_fieldAt_3 N n) x1 x2 x3 x4 v_rows v_cols v_rowOf v_colOf v_below))))

set_option maxHeartbeats 4000000 in
set_option maxRecDepth 100000 in
theorem tX5_fieldAt_3 {p : Program} {l : Launch} {e : Env} {s : State} {m : MethodId} {args : Array Value} {below : List Frame} {meth : Method} {c : Code} {D : va_G} {cI cL cS cH : ClassId} {A : Nat → Prop} {d : Nat} {a : Nat → Nat} (hd : 2 ≤ d) (C0 : mm_Cx p s m args meth c RX5 cX5_fieldAt 5 (some .int) D (mm_T cI cL cS cH) A) (hA : ∀ q, s.heap.size ≤ q → A q) {v_high : Int32} {v_wide : Int32} {v_folds : Int32} {v_wrong : Int32} {v_more : Int32} {v_face : List Int32} {v_worn : List Int32} {v_last : List Int32} {v_bend : List Int32} {v_tall : List Int32} {r : Int32} (N : Nat)  : ∀ (n : Nat), ∀ (x1 : Int32) (x2 : Int32) (x3 : Int32) (x4 : Int32) (v_rows : Int32) (v_cols : Int32) (v_rowOf : List Int32) (v_colOf : List Int32) (v_below : List Int32) (H : Heap) (locs : List Loc) (ls : Array Slot), fX5_fieldAt_3 N n x1 x2 x3 x4 v_rows v_cols v_rowOf v_colOf v_below = some r → va_P D mm_cl (wd_X5 cI cL cS cH a v_rows v_cols v_high v_wide v_folds v_wrong v_more v_rowOf v_colOf v_below v_face v_worn v_last v_bend v_tall) H → va_D A (wd_X5 cI cL cS cH a v_rows v_cols v_high v_wide v_folds v_wrong v_more v_rowOf v_colOf v_below v_face v_worn v_last v_bend v_tall) → va_S A s.heap H locs → lv_has ls 5 [(0, .ref (a 0)), (1, .int x1), (2, .int x2), (3, .int x3), (4, .int x4)] → W p l e (mm_rr d) s m args below meth c H locs 0 0 (mm_Z below D A (wd_X5 cI cL cS cH a v_rows v_cols v_high v_wide v_folds v_wrong v_more v_rowOf v_colOf v_below v_face v_worn v_last v_bend v_tall) (some (.int r)) args s) (F0 m 3 ls []) := by
  obtain ⟨hx, hb, hml, hown, hts, hr, hlocks, hK, hSt⟩ := id C0
  intro n
  induction n with
  | zero =>
    intro x1 x2 x3 x4 v_rows v_cols v_rowOf v_colOf v_below H locs ls hf
    cases (show none = some _ from hf)
  | succ n ih =>
    intro x1 x2 x3 x4 v_rows v_cols v_rowOf v_colOf v_below H locs ls hf hP hD hS hl
    unfold fX5_fieldAt_3 at hf
    refine lv_iload hx hb dX5_fieldAt_3 (lv_at hl 4 rfl) ?_
    refine lv_aload_n hx hb dX5_fieldAt_5 rfl (lv_at hl 0 rfl) ?_
    obtain ⟨r_1, hc_2, hf⟩ := mm_bd1s hf
    refine mm_callVF (q0 := 0) (ci := 5) (rest := [.int x4]) C0 lk_X5_84 (ctX5_fields (a := a) (d := d - 1) (by omega) hc_2) (by omega) rfl hl.1 rfl (mm_cat rfl) dX5_fieldAt_6 hP hD hA hS rfl rfl (fun H locs hP hD hS => ?_)
    refine W.eq (g2 := F0 m 9 ls [.int r_1, .int x4]) rfl ?_
    refine lv_icmp_ge (tgt := 54) hx hb dX5_fieldAt_9 (by decide) (fun c_3 => ?_) (fun c_3 => ?_)
    · have hf := mm_ip hf c_3
      refine lv_iconst (v := -1) hx hb dX5_fieldAt_54 (by decide) ?_
      obtain rfl := mm_inj1 hf
      exact mm_iret C0 hP hD hS dX5_fieldAt_55
    · have hf := mm_in hf c_3
      refine lv_aload_n hx hb dX5_fieldAt_12 rfl (lv_at hl 0 rfl) ?_
      refine mm_get C0 hP iw_X5 0 rfl rfl 7 (by decide) fl_X5_9 rfl dX5_fieldAt_13 ?_
      refine lv_iload hx hb dX5_fieldAt_16 (lv_at hl 4 rfl) ?_
      obtain ⟨h_4, hf⟩ := mm_cks hf
      refine mm_iald C0 hP 1 rfl h_4 dX5_fieldAt_18 ?_
      refine lv_iload_n hx hb dX5_fieldAt_19 rfl (lv_at hl 1 rfl) ?_
      refine lv_icmp_ne (tgt := 48) hx hb dX5_fieldAt_20 (by decide) (fun c_5 => ?_) (fun c_5 => ?_)
      · have hf := mm_in hf c_5
        exact tX5_fieldAt_48 hd C0 hA N ih _ _ _ _ _ _ _ _ _ H locs ls hf hP hD hS (lv_sub hl [0, 1, 2, 3, 4] rfl)
      · have hf := mm_ip hf c_5
        refine lv_aload_n hx hb dX5_fieldAt_23 rfl (lv_at hl 0 rfl) ?_
        refine mm_get C0 hP iw_X5 0 rfl rfl 8 (by decide) fl_X5_15 rfl dX5_fieldAt_24 ?_
        refine lv_iload hx hb dX5_fieldAt_27 (lv_at hl 4 rfl) ?_
        obtain ⟨h_6, hf⟩ := mm_cks hf
        refine mm_iald C0 hP 2 rfl h_6 dX5_fieldAt_29 ?_
        refine lv_iload_n hx hb dX5_fieldAt_30 rfl (lv_at hl 2 rfl) ?_
        refine lv_icmp_ne (tgt := 48) hx hb dX5_fieldAt_31 (by decide) (fun c_7 => ?_) (fun c_7 => ?_)
        · have hf := mm_in hf c_7
          exact tX5_fieldAt_48 hd C0 hA N ih _ _ _ _ _ _ _ _ _ H locs ls hf hP hD hS (lv_sub hl [0, 1, 2, 3, 4] rfl)
        · have hf := mm_ip hf c_7
          refine lv_aload_n hx hb dX5_fieldAt_34 rfl (lv_at hl 0 rfl) ?_
          refine mm_get C0 hP iw_X5 0 rfl rfl 9 (by decide) fl_X5_18 rfl dX5_fieldAt_35 ?_
          refine lv_iload hx hb dX5_fieldAt_38 (lv_at hl 4 rfl) ?_
          obtain ⟨h_8, hf⟩ := mm_cks hf
          refine mm_iald C0 hP 3 rfl h_8 dX5_fieldAt_40 ?_
          refine lv_iload_n hx hb dX5_fieldAt_41 rfl (lv_at hl 3 rfl) ?_
          refine lv_icmp_ne (tgt := 48) hx hb dX5_fieldAt_42 (by decide) (fun c_9 => ?_) (fun c_9 => ?_)
          · have hf := mm_in hf c_9
            exact tX5_fieldAt_48 hd C0 hA N ih _ _ _ _ _ _ _ _ _ H locs ls hf hP hD hS (lv_sub hl [0, 1, 2, 3, 4] rfl)
          · have hf := mm_ip hf c_9
            refine lv_iload hx hb dX5_fieldAt_45 (lv_at hl 4 rfl) ?_
            obtain rfl := mm_inj1 hf
            exact mm_iret C0 hP hD hS dX5_fieldAt_47

def fX5_fieldAt (N : Nat) (x1 : Int32) (x2 : Int32) (x3 : Int32) (v_rows : Int32) (v_cols : Int32) (v_rowOf : List Int32) (v_colOf : List Int32) (v_below : List Int32) : Option (Int32) :=
    fX5_fieldAt_3 N N x1 x2 x3 (0 : Int32) v_rows v_cols v_rowOf v_colOf v_below

set_option maxHeartbeats 4000000 in
set_option maxRecDepth 100000 in
theorem ctX5_fieldAt {l : Launch} {D : va_G} {cI cL cS cH : ClassId} {a : Nat → Nat} {x1 : Int32} {x2 : Int32} {x3 : Int32} {v_rows : Int32} {v_cols : Int32} {v_high : Int32} {v_wide : Int32} {v_folds : Int32} {v_wrong : Int32} {v_more : Int32} {v_rowOf : List Int32} {v_colOf : List Int32} {v_below : List Int32} {v_face : List Int32} {v_worn : List Int32} {v_last : List Int32} {v_bend : List Int32} {v_tall : List Int32} {r : Int32} {N d : Nat} (hd : 2 ≤ d) (hf : fX5_fieldAt N x1 x2 x3 v_rows v_cols v_rowOf v_colOf v_below = some r) : mm_Ct l yX5_fieldAt cX5_fieldAt 5 (some .int) d D (mm_T cI cL cS cH) [.ref (a 0), .int x1, .int x2, .int x3] (wd_X5 cI cL cS cH a v_rows v_cols v_high v_wide v_folds v_wrong v_more v_rowOf v_colOf v_below v_face v_worn v_last v_bend v_tall) (wd_X5 cI cL cS cH a v_rows v_cols v_high v_wide v_folds v_wrong v_more v_rowOf v_colOf v_below v_face v_worn v_last v_bend v_tall) (some (.int r)) := by
  refine mm_of (by decide) (Nat.le_of_ble_eq_true rfl) ?_
  intro p e s m args below meth c A H locs ls C0 hP hD hA hS hl
  have C0 : mm_Cx p s m args meth c RX5 cX5_fieldAt 5 (some .int) D (mm_T cI cL cS cH) A := C0
  obtain ⟨hx, hb, hml, hown, hts, hr, hlocks, hK, hSt⟩ := id C0
  have hl : lv_has ls 5 [(0, .ref (a 0)), (1, .int x1), (2, .int x2), (3, .int x3)] := hl
  unfold fX5_fieldAt at hf
  refine lv_iconst (v := 0) hx hb dX5_fieldAt_0 (by decide) ?_
  refine lv_istore (lv' := [(4, .int (0 : Int32)), (0, .ref (a 0)), (1, .int x1), (2, .int x2), (3, .int x3)]) hx hb dX5_fieldAt_1 hl (by decide) rfl (fun ls hl => ?_)
  exact tX5_fieldAt_3 hd C0 hA N  N _ _ _ _ _ _ _ _ _ H locs ls hf hP hD hS (lv_sub hl [1, 2, 3, 4, 0] rfl)

theorem dX5_topAt_0 : decode cX5_topAt 0 = .ok (.aload_n 0, 1) := by decide +kernel
theorem dX5_topAt_1 : decode cX5_topAt 1 = .ok (.iload_n 1, 1) := by decide +kernel
theorem dX5_topAt_2 : decode cX5_topAt 2 = .ok (.iload_n 2, 1) := by decide +kernel
theorem dX5_topAt_3 : decode cX5_topAt 3 = .ok (.aload_n 0, 1) := by decide +kernel
theorem dX5_topAt_4 : decode cX5_topAt 4 = .ok (.iload_n 1, 1) := by decide +kernel
theorem dX5_topAt_5 : decode cX5_topAt 5 = .ok (.iload_n 2, 1) := by decide +kernel
theorem dX5_topAt_6 : decode cX5_topAt 6 = .ok (.invokevirtual 102, 3) := by decide +kernel
theorem dX5_topAt_9 : decode cX5_topAt 9 = .ok (.iconst 1, 1) := by decide +kernel
theorem dX5_topAt_10 : decode cX5_topAt 10 = .ok (.isub, 1) := by decide +kernel
theorem dX5_topAt_11 : decode cX5_topAt 11 = .ok (.invokevirtual 105, 3) := by decide +kernel
theorem dX5_topAt_14 : decode cX5_topAt 14 = .ok (.ireturn, 1) := by decide +kernel
def fX5_topAt (N : Nat) (x1 : Int32) (x2 : Int32) (v_rows : Int32) (v_cols : Int32) (v_rowOf : List Int32) (v_colOf : List Int32) (v_below : List Int32) : Option (Int32) :=
    mm_bd1 (fX5_heightAt N x1 x2 v_rows v_cols v_rowOf v_colOf) (fun (r_1 : Int32) =>
    mm_bd1 (fX5_fieldAt N x1 x2 (r_1 - (1 : Int32)) v_rows v_cols v_rowOf v_colOf v_below) (fun (r_3 : Int32) =>
    some (r_3)))

set_option maxHeartbeats 4000000 in
set_option maxRecDepth 100000 in
theorem ctX5_topAt {l : Launch} {D : va_G} {cI cL cS cH : ClassId} {a : Nat → Nat} {x1 : Int32} {x2 : Int32} {v_rows : Int32} {v_cols : Int32} {v_high : Int32} {v_wide : Int32} {v_folds : Int32} {v_wrong : Int32} {v_more : Int32} {v_rowOf : List Int32} {v_colOf : List Int32} {v_below : List Int32} {v_face : List Int32} {v_worn : List Int32} {v_last : List Int32} {v_bend : List Int32} {v_tall : List Int32} {r : Int32} {N d : Nat} (hd : 3 ≤ d) (hf : fX5_topAt N x1 x2 v_rows v_cols v_rowOf v_colOf v_below = some r) : mm_Ct l yX5_topAt cX5_topAt 3 (some .int) d D (mm_T cI cL cS cH) [.ref (a 0), .int x1, .int x2] (wd_X5 cI cL cS cH a v_rows v_cols v_high v_wide v_folds v_wrong v_more v_rowOf v_colOf v_below v_face v_worn v_last v_bend v_tall) (wd_X5 cI cL cS cH a v_rows v_cols v_high v_wide v_folds v_wrong v_more v_rowOf v_colOf v_below v_face v_worn v_last v_bend v_tall) (some (.int r)) := by
  refine mm_of (by decide) (Nat.le_of_ble_eq_true rfl) ?_
  intro p e s m args below meth c A H locs ls C0 hP hD hA hS hl
  have C0 : mm_Cx p s m args meth c RX5 cX5_topAt 3 (some .int) D (mm_T cI cL cS cH) A := C0
  obtain ⟨hx, hb, hml, hown, hts, hr, hlocks, hK, hSt⟩ := id C0
  have hl : lv_has ls 3 [(0, .ref (a 0)), (1, .int x1), (2, .int x2)] := hl
  unfold fX5_topAt at hf
  refine lv_aload_n hx hb dX5_topAt_0 rfl (lv_at hl 0 rfl) ?_
  refine lv_iload_n hx hb dX5_topAt_1 rfl (lv_at hl 1 rfl) ?_
  refine lv_iload_n hx hb dX5_topAt_2 rfl (lv_at hl 2 rfl) ?_
  refine lv_aload_n hx hb dX5_topAt_3 rfl (lv_at hl 0 rfl) ?_
  refine lv_iload_n hx hb dX5_topAt_4 rfl (lv_at hl 1 rfl) ?_
  refine lv_iload_n hx hb dX5_topAt_5 rfl (lv_at hl 2 rfl) ?_
  obtain ⟨r_1, hc_2, hf⟩ := mm_bd1s hf
  refine mm_callVF (q0 := 0) (ci := 5) (rest := [.int x2, .int x1, .ref (a 0)]) C0 lk_X5_102 (ctX5_heightAt (a := a) (d := d - 1) (by omega) hc_2) (by omega) rfl hl.1 rfl (mm_cat rfl) dX5_topAt_6 hP hD hA hS rfl rfl (fun H locs hP hD hS => ?_)
  refine W.eq (g2 := F0 m 9 ls [.int r_1, .int x2, .int x1, .ref (a 0)]) rfl ?_
  refine lv_iconst (v := 1) hx hb dX5_topAt_9 (by decide) ?_
  refine lv_isub hx hb dX5_topAt_10 ?_
  obtain ⟨r_3, hc_4, hf⟩ := mm_bd1s hf
  refine mm_callVF (q0 := 0) (ci := 5) (rest := []) C0 lk_X5_105 (ctX5_fieldAt (a := a) (d := d - 1) (by omega) hc_4) (by omega) rfl hl.1 rfl (mm_cat rfl) dX5_topAt_11 hP hD hA hS rfl rfl (fun H locs hP hD hS => ?_)
  refine W.eq (g2 := F0 m 14 ls [.int r_3]) rfl ?_
  obtain rfl := mm_inj1 hf
  exact mm_iret C0 hP hD hS dX5_topAt_14

theorem dX5_isTop_0 : decode cX5_isTop 0 = .ok (.aload_n 0, 1) := by decide +kernel
theorem dX5_isTop_1 : decode cX5_isTop 1 = .ok (.aload_n 0, 1) := by decide +kernel
theorem dX5_isTop_2 : decode cX5_isTop 2 = .ok (.getfield 9, 3) := by decide +kernel
theorem dX5_isTop_5 : decode cX5_isTop 5 = .ok (.iload_n 1, 1) := by decide +kernel
theorem dX5_isTop_6 : decode cX5_isTop 6 = .ok (.iaload, 1) := by decide +kernel
theorem dX5_isTop_7 : decode cX5_isTop 7 = .ok (.aload_n 0, 1) := by decide +kernel
theorem dX5_isTop_8 : decode cX5_isTop 8 = .ok (.getfield 15, 3) := by decide +kernel
theorem dX5_isTop_11 : decode cX5_isTop 11 = .ok (.iload_n 1, 1) := by decide +kernel
theorem dX5_isTop_12 : decode cX5_isTop 12 = .ok (.iaload, 1) := by decide +kernel
theorem dX5_isTop_13 : decode cX5_isTop 13 = .ok (.invokevirtual 109, 3) := by decide +kernel
theorem dX5_isTop_16 : decode cX5_isTop 16 = .ok (.iload_n 1, 1) := by decide +kernel
theorem dX5_isTop_17 : decode cX5_isTop 17 = .ok (.if_icmp .ne 7, 3) := by decide +kernel
theorem dX5_isTop_20 : decode cX5_isTop 20 = .ok (.iconst 1, 1) := by decide +kernel
theorem dX5_isTop_21 : decode cX5_isTop 21 = .ok (.goto 4, 3) := by decide +kernel
theorem dX5_isTop_24 : decode cX5_isTop 24 = .ok (.iconst 0, 1) := by decide +kernel
theorem dX5_isTop_25 : decode cX5_isTop 25 = .ok (.ireturn, 1) := by decide +kernel
def fX5_isTop (N : Nat) (x1 : Int32) (v_rows : Int32) (v_cols : Int32) (v_rowOf : List Int32) (v_colOf : List Int32) (v_below : List Int32) : Option (Bool) :=
    mm_ck (mm_inb x1 v_rowOf.length) (mm_ck (mm_inb x1 v_colOf.length) (mm_bd1 (fX5_topAt N (mm_ig v_rowOf x1) (mm_ig v_colOf x1) v_rows v_cols v_rowOf v_colOf v_below) (fun (r_3 : Int32) =>
    if r_3 = x1 then
    (some (true))
    else (some (false)))))

set_option maxHeartbeats 4000000 in
set_option maxRecDepth 100000 in
theorem ctX5_isTop {l : Launch} {D : va_G} {cI cL cS cH : ClassId} {a : Nat → Nat} {x1 : Int32} {v_rows : Int32} {v_cols : Int32} {v_high : Int32} {v_wide : Int32} {v_folds : Int32} {v_wrong : Int32} {v_more : Int32} {v_rowOf : List Int32} {v_colOf : List Int32} {v_below : List Int32} {v_face : List Int32} {v_worn : List Int32} {v_last : List Int32} {v_bend : List Int32} {v_tall : List Int32} {r : Bool} {N d : Nat} (hd : 4 ≤ d) (hf : fX5_isTop N x1 v_rows v_cols v_rowOf v_colOf v_below = some r) : mm_Ct l yX5_isTop cX5_isTop 2 (some .boolean) d D (mm_T cI cL cS cH) [.ref (a 0), .int x1] (wd_X5 cI cL cS cH a v_rows v_cols v_high v_wide v_folds v_wrong v_more v_rowOf v_colOf v_below v_face v_worn v_last v_bend v_tall) (wd_X5 cI cL cS cH a v_rows v_cols v_high v_wide v_folds v_wrong v_more v_rowOf v_colOf v_below v_face v_worn v_last v_bend v_tall) (some (.int (mm_b r))) := by
  refine mm_of (by decide) (Nat.le_of_ble_eq_true rfl) ?_
  intro p e s m args below meth c A H locs ls C0 hP hD hA hS hl
  have C0 : mm_Cx p s m args meth c RX5 cX5_isTop 2 (some .boolean) D (mm_T cI cL cS cH) A := C0
  obtain ⟨hx, hb, hml, hown, hts, hr, hlocks, hK, hSt⟩ := id C0
  have hl : lv_has ls 2 [(0, .ref (a 0)), (1, .int x1)] := hl
  unfold fX5_isTop at hf
  refine lv_aload_n hx hb dX5_isTop_0 rfl (lv_at hl 0 rfl) ?_
  refine lv_aload_n hx hb dX5_isTop_1 rfl (lv_at hl 0 rfl) ?_
  refine mm_get C0 hP iw_X5 0 rfl rfl 7 (by decide) fl_X5_9 rfl dX5_isTop_2 ?_
  refine lv_iload_n hx hb dX5_isTop_5 rfl (lv_at hl 1 rfl) ?_
  obtain ⟨h_1, hf⟩ := mm_cks hf
  refine mm_iald C0 hP 1 rfl h_1 dX5_isTop_6 ?_
  refine lv_aload_n hx hb dX5_isTop_7 rfl (lv_at hl 0 rfl) ?_
  refine mm_get C0 hP iw_X5 0 rfl rfl 8 (by decide) fl_X5_15 rfl dX5_isTop_8 ?_
  refine lv_iload_n hx hb dX5_isTop_11 rfl (lv_at hl 1 rfl) ?_
  obtain ⟨h_2, hf⟩ := mm_cks hf
  refine mm_iald C0 hP 2 rfl h_2 dX5_isTop_12 ?_
  obtain ⟨r_3, hc_4, hf⟩ := mm_bd1s hf
  refine mm_callVF (q0 := 0) (ci := 5) (rest := []) C0 lk_X5_109 (ctX5_topAt (a := a) (d := d - 1) (by omega) hc_4) (by omega) rfl hl.1 rfl (mm_cat rfl) dX5_isTop_13 hP hD hA hS rfl rfl (fun H locs hP hD hS => ?_)
  refine W.eq (g2 := F0 m 16 ls [.int r_3]) rfl ?_
  refine lv_iload_n hx hb dX5_isTop_16 rfl (lv_at hl 1 rfl) ?_
  refine lv_icmp_ne (tgt := 24) hx hb dX5_isTop_17 (by decide) (fun c_5 => ?_) (fun c_5 => ?_)
  · have hf := mm_in hf c_5
    refine lv_iconst (v := 0) hx hb dX5_isTop_24 (by decide) ?_
    obtain rfl := mm_inj1 hf
    exact mm_zret (v := false) C0 hP hD hS dX5_isTop_25 (by decide)
  · have hf := mm_ip hf c_5
    refine lv_iconst (v := 1) hx hb dX5_isTop_20 (by decide) ?_
    refine lv_goto (tgt := 25) hx hb dX5_isTop_21 (by decide) ?_
    obtain rfl := mm_inj1 hf
    exact mm_zret (v := true) C0 hP hD hS dX5_isTop_25 (by decide)

theorem dX5_topsTouch_0 : decode cX5_topsTouch 0 = .ok (.aload_n 0, 1) := by decide +kernel
theorem dX5_topsTouch_1 : decode cX5_topsTouch 1 = .ok (.getfield 9, 3) := by decide +kernel
theorem dX5_topsTouch_4 : decode cX5_topsTouch 4 = .ok (.iload_n 1, 1) := by decide +kernel
theorem dX5_topsTouch_5 : decode cX5_topsTouch 5 = .ok (.iaload, 1) := by decide +kernel
theorem dX5_topsTouch_6 : decode cX5_topsTouch 6 = .ok (.aload_n 0, 1) := by decide +kernel
theorem dX5_topsTouch_7 : decode cX5_topsTouch 7 = .ok (.getfield 9, 3) := by decide +kernel
theorem dX5_topsTouch_10 : decode cX5_topsTouch 10 = .ok (.iload_n 2, 1) := by decide +kernel
theorem dX5_topsTouch_11 : decode cX5_topsTouch 11 = .ok (.iaload, 1) := by decide +kernel
theorem dX5_topsTouch_12 : decode cX5_topsTouch 12 = .ok (.isub, 1) := by decide +kernel
theorem dX5_topsTouch_13 : decode cX5_topsTouch 13 = .ok (.invokestatic 112, 3) := by decide +kernel
theorem dX5_topsTouch_16 : decode cX5_topsTouch 16 = .ok (.aload_n 0, 1) := by decide +kernel
theorem dX5_topsTouch_17 : decode cX5_topsTouch 17 = .ok (.getfield 15, 3) := by decide +kernel
theorem dX5_topsTouch_20 : decode cX5_topsTouch 20 = .ok (.iload_n 1, 1) := by decide +kernel
theorem dX5_topsTouch_21 : decode cX5_topsTouch 21 = .ok (.iaload, 1) := by decide +kernel
theorem dX5_topsTouch_22 : decode cX5_topsTouch 22 = .ok (.aload_n 0, 1) := by decide +kernel
theorem dX5_topsTouch_23 : decode cX5_topsTouch 23 = .ok (.getfield 15, 3) := by decide +kernel
theorem dX5_topsTouch_26 : decode cX5_topsTouch 26 = .ok (.iload_n 2, 1) := by decide +kernel
theorem dX5_topsTouch_27 : decode cX5_topsTouch 27 = .ok (.iaload, 1) := by decide +kernel
theorem dX5_topsTouch_28 : decode cX5_topsTouch 28 = .ok (.isub, 1) := by decide +kernel
theorem dX5_topsTouch_29 : decode cX5_topsTouch 29 = .ok (.invokestatic 112, 3) := by decide +kernel
theorem dX5_topsTouch_32 : decode cX5_topsTouch 32 = .ok (.iadd, 1) := by decide +kernel
theorem dX5_topsTouch_33 : decode cX5_topsTouch 33 = .ok (.istore_n 3, 1) := by decide +kernel
theorem dX5_topsTouch_34 : decode cX5_topsTouch 34 = .ok (.iload_n 3, 1) := by decide +kernel
theorem dX5_topsTouch_35 : decode cX5_topsTouch 35 = .ok (.iconst 1, 1) := by decide +kernel
theorem dX5_topsTouch_36 : decode cX5_topsTouch 36 = .ok (.if_icmp .ne 23, 3) := by decide +kernel
theorem dX5_topsTouch_39 : decode cX5_topsTouch 39 = .ok (.aload_n 0, 1) := by decide +kernel
theorem dX5_topsTouch_40 : decode cX5_topsTouch 40 = .ok (.iload_n 1, 1) := by decide +kernel
theorem dX5_topsTouch_41 : decode cX5_topsTouch 41 = .ok (.invokevirtual 115, 3) := by decide +kernel
theorem dX5_topsTouch_44 : decode cX5_topsTouch 44 = .ok (.ifCond .eq 15, 3) := by decide +kernel
theorem dX5_topsTouch_47 : decode cX5_topsTouch 47 = .ok (.aload_n 0, 1) := by decide +kernel
theorem dX5_topsTouch_48 : decode cX5_topsTouch 48 = .ok (.iload_n 2, 1) := by decide +kernel
theorem dX5_topsTouch_49 : decode cX5_topsTouch 49 = .ok (.invokevirtual 115, 3) := by decide +kernel
theorem dX5_topsTouch_52 : decode cX5_topsTouch 52 = .ok (.ifCond .eq 7, 3) := by decide +kernel
theorem dX5_topsTouch_55 : decode cX5_topsTouch 55 = .ok (.iconst 1, 1) := by decide +kernel
theorem dX5_topsTouch_56 : decode cX5_topsTouch 56 = .ok (.goto 4, 3) := by decide +kernel
theorem dX5_topsTouch_59 : decode cX5_topsTouch 59 = .ok (.iconst 0, 1) := by decide +kernel
theorem dX5_topsTouch_60 : decode cX5_topsTouch 60 = .ok (.ireturn, 1) := by decide +kernel
def fX5_topsTouch (N : Nat) (x1 : Int32) (x2 : Int32) (v_rows : Int32) (v_cols : Int32) (v_rowOf : List Int32) (v_colOf : List Int32) (v_below : List Int32) : Option (Bool) :=
    mm_ck (mm_inb x1 v_rowOf.length) (mm_ck (mm_inb x2 v_rowOf.length) (mm_ck (mm_inb x1 v_colOf.length) (mm_ck (mm_inb x2 v_colOf.length) (mm_nm (((mm_abs ((mm_ig v_rowOf x1) - (mm_ig v_rowOf x2))) + (mm_abs ((mm_ig v_colOf x1) - (mm_ig v_colOf x2))))) (fun (y_5 : Int32) =>
    if y_5 = (1 : Int32) then
    (mm_bd1 (fX5_isTop N x1 v_rows v_cols v_rowOf v_colOf v_below) (fun (r_7 : Bool) =>
    if r_7 = false then
    (some (false))
    else (mm_bd1 (fX5_isTop N x2 v_rows v_cols v_rowOf v_colOf v_below) (fun (r_10 : Bool) =>
    if r_10 = false then
    (some (false))
    else (some (true))))))
    else (some (false)))))))

set_option maxHeartbeats 4000000 in
set_option maxRecDepth 100000 in
theorem ctX5_topsTouch {l : Launch} {D : va_G} {cI cL cS cH : ClassId} {a : Nat → Nat} {x1 : Int32} {x2 : Int32} {v_rows : Int32} {v_cols : Int32} {v_high : Int32} {v_wide : Int32} {v_folds : Int32} {v_wrong : Int32} {v_more : Int32} {v_rowOf : List Int32} {v_colOf : List Int32} {v_below : List Int32} {v_face : List Int32} {v_worn : List Int32} {v_last : List Int32} {v_bend : List Int32} {v_tall : List Int32} {r : Bool} {N d : Nat} (hd : 5 ≤ d) (hf : fX5_topsTouch N x1 x2 v_rows v_cols v_rowOf v_colOf v_below = some r) : mm_Ct l yX5_topsTouch cX5_topsTouch 4 (some .boolean) d D (mm_T cI cL cS cH) [.ref (a 0), .int x1, .int x2] (wd_X5 cI cL cS cH a v_rows v_cols v_high v_wide v_folds v_wrong v_more v_rowOf v_colOf v_below v_face v_worn v_last v_bend v_tall) (wd_X5 cI cL cS cH a v_rows v_cols v_high v_wide v_folds v_wrong v_more v_rowOf v_colOf v_below v_face v_worn v_last v_bend v_tall) (some (.int (mm_b r))) := by
  refine mm_of (by decide) (Nat.le_of_ble_eq_true rfl) ?_
  intro p e s m args below meth c A H locs ls C0 hP hD hA hS hl
  have C0 : mm_Cx p s m args meth c RX5 cX5_topsTouch 4 (some .boolean) D (mm_T cI cL cS cH) A := C0
  obtain ⟨hx, hb, hml, hown, hts, hr, hlocks, hK, hSt⟩ := id C0
  have hl : lv_has ls 4 [(0, .ref (a 0)), (1, .int x1), (2, .int x2)] := hl
  unfold fX5_topsTouch at hf
  refine lv_aload_n hx hb dX5_topsTouch_0 rfl (lv_at hl 0 rfl) ?_
  refine mm_get C0 hP iw_X5 0 rfl rfl 7 (by decide) fl_X5_9 rfl dX5_topsTouch_1 ?_
  refine lv_iload_n hx hb dX5_topsTouch_4 rfl (lv_at hl 1 rfl) ?_
  obtain ⟨h_1, hf⟩ := mm_cks hf
  refine mm_iald C0 hP 1 rfl h_1 dX5_topsTouch_5 ?_
  refine lv_aload_n hx hb dX5_topsTouch_6 rfl (lv_at hl 0 rfl) ?_
  refine mm_get C0 hP iw_X5 0 rfl rfl 7 (by decide) fl_X5_9 rfl dX5_topsTouch_7 ?_
  refine lv_iload_n hx hb dX5_topsTouch_10 rfl (lv_at hl 2 rfl) ?_
  obtain ⟨h_2, hf⟩ := mm_cks hf
  refine mm_iald C0 hP 1 rfl h_2 dX5_topsTouch_11 ?_
  refine lv_isub hx hb dX5_topsTouch_12 ?_
  refine mm_mabs C0 lm_X5_112 (by omega) hl.1 (mm_cat rfl) dX5_topsTouch_13 ?_
  refine lv_aload_n hx hb dX5_topsTouch_16 rfl (lv_at hl 0 rfl) ?_
  refine mm_get C0 hP iw_X5 0 rfl rfl 8 (by decide) fl_X5_15 rfl dX5_topsTouch_17 ?_
  refine lv_iload_n hx hb dX5_topsTouch_20 rfl (lv_at hl 1 rfl) ?_
  obtain ⟨h_3, hf⟩ := mm_cks hf
  refine mm_iald C0 hP 2 rfl h_3 dX5_topsTouch_21 ?_
  refine lv_aload_n hx hb dX5_topsTouch_22 rfl (lv_at hl 0 rfl) ?_
  refine mm_get C0 hP iw_X5 0 rfl rfl 8 (by decide) fl_X5_15 rfl dX5_topsTouch_23 ?_
  refine lv_iload_n hx hb dX5_topsTouch_26 rfl (lv_at hl 2 rfl) ?_
  obtain ⟨h_4, hf⟩ := mm_cks hf
  refine mm_iald C0 hP 2 rfl h_4 dX5_topsTouch_27 ?_
  refine lv_isub hx hb dX5_topsTouch_28 ?_
  refine mm_mabs C0 lm_X5_112 (by omega) hl.1 (mm_cat rfl) dX5_topsTouch_29 ?_
  refine lv_iadd hx hb dX5_topsTouch_32 ?_
  refine lv_topi (fun y_5 ey_5 => ?_)
  have hf := mm_nms hf ey_5
  refine lv_istore_n (lv' := [(3, .int y_5), (0, .ref (a 0)), (1, .int x1), (2, .int x2)]) hx hb dX5_topsTouch_33 rfl hl (by decide) rfl (fun ls hl => ?_)
  refine lv_iload_n hx hb dX5_topsTouch_34 rfl (lv_at hl 0 rfl) ?_
  refine lv_iconst (v := 1) hx hb dX5_topsTouch_35 (by decide) ?_
  refine lv_icmp_ne (tgt := 59) hx hb dX5_topsTouch_36 (by decide) (fun c_6 => ?_) (fun c_6 => ?_)
  · have hf := mm_in hf c_6
    refine lv_iconst (v := 0) hx hb dX5_topsTouch_59 (by decide) ?_
    obtain rfl := mm_inj1 hf
    exact mm_zret (v := false) C0 hP hD hS dX5_topsTouch_60 (by decide)
  · have hf := mm_ip hf c_6
    refine lv_aload_n hx hb dX5_topsTouch_39 rfl (lv_at hl 1 rfl) ?_
    refine lv_iload_n hx hb dX5_topsTouch_40 rfl (lv_at hl 2 rfl) ?_
    obtain ⟨r_7, hc_8, hf⟩ := mm_bd1s hf
    refine mm_callVF (q0 := 0) (ci := 5) (rest := []) C0 lk_X5_115 (ctX5_isTop (a := a) (d := d - 1) (by omega) hc_8) (by omega) rfl hl.1 rfl (mm_cat rfl) dX5_topsTouch_41 hP hD hA hS rfl rfl (fun H locs hP hD hS => ?_)
    refine W.eq (g2 := F0 m 44 ls [.int (mm_b r_7)]) rfl ?_
    refine lv_if_eq (tgt := 59) hx hb dX5_topsTouch_44 (by decide) (fun c_9 => ?_) (fun c_9 => ?_)
    · have hf := mm_ip hf (mm_b0 c_9)
      refine lv_iconst (v := 0) hx hb dX5_topsTouch_59 (by decide) ?_
      obtain rfl := mm_inj1 hf
      exact mm_zret (v := false) C0 hP hD hS dX5_topsTouch_60 (by decide)
    · have hf := mm_in hf (mm_b1 c_9)
      refine lv_aload_n hx hb dX5_topsTouch_47 rfl (lv_at hl 1 rfl) ?_
      refine lv_iload_n hx hb dX5_topsTouch_48 rfl (lv_at hl 3 rfl) ?_
      obtain ⟨r_10, hc_11, hf⟩ := mm_bd1s hf
      refine mm_callVF (q0 := 0) (ci := 5) (rest := []) C0 lk_X5_115 (ctX5_isTop (a := a) (d := d - 1) (by omega) hc_11) (by omega) rfl hl.1 rfl (mm_cat rfl) dX5_topsTouch_49 hP hD hA hS rfl rfl (fun H locs hP hD hS => ?_)
      refine W.eq (g2 := F0 m 52 ls [.int (mm_b r_10)]) rfl ?_
      refine lv_if_eq (tgt := 59) hx hb dX5_topsTouch_52 (by decide) (fun c_12 => ?_) (fun c_12 => ?_)
      · have hf := mm_ip hf (mm_b0 c_12)
        refine lv_iconst (v := 0) hx hb dX5_topsTouch_59 (by decide) ?_
        obtain rfl := mm_inj1 hf
        exact mm_zret (v := false) C0 hP hD hS dX5_topsTouch_60 (by decide)
      · have hf := mm_in hf (mm_b1 c_12)
        refine lv_iconst (v := 1) hx hb dX5_topsTouch_55 (by decide) ?_
        refine lv_goto (tgt := 60) hx hb dX5_topsTouch_56 (by decide) ?_
        obtain rfl := mm_inj1 hf
        exact mm_zret (v := true) C0 hP hD hS dX5_topsTouch_60 (by decide)

theorem dX5_torn_0 : decode cX5_torn 0 = .ok (.iconst 0, 1) := by decide +kernel
theorem dX5_torn_1 : decode cX5_torn 1 = .ok (.istore_n 2, 1) := by decide +kernel
theorem dX5_torn_2 : decode cX5_torn 2 = .ok (.iconst 0, 1) := by decide +kernel
theorem dX5_torn_3 : decode cX5_torn 3 = .ok (.istore_n 3, 1) := by decide +kernel
theorem dX5_torn_4 : decode cX5_torn 4 = .ok (.iload_n 3, 1) := by decide +kernel
theorem dX5_torn_5 : decode cX5_torn 5 = .ok (.iconst 2, 1) := by decide +kernel
theorem dX5_torn_6 : decode cX5_torn 6 = .ok (.aload_n 0, 1) := by decide +kernel
theorem dX5_torn_7 : decode cX5_torn 7 = .ok (.invokevirtual 84, 3) := by decide +kernel
theorem dX5_torn_10 : decode cX5_torn 10 = .ok (.imul, 1) := by decide +kernel
theorem dX5_torn_11 : decode cX5_torn 11 = .ok (.if_icmp .ge 35, 3) := by decide +kernel
theorem dX5_torn_14 : decode cX5_torn 14 = .ok (.aload_n 0, 1) := by decide +kernel
theorem dX5_torn_15 : decode cX5_torn 15 = .ok (.iload_n 3, 1) := by decide +kernel
theorem dX5_torn_16 : decode cX5_torn 16 = .ok (.iconst 2, 1) := by decide +kernel
theorem dX5_torn_17 : decode cX5_torn 17 = .ok (.idiv, 1) := by decide +kernel
theorem dX5_torn_18 : decode cX5_torn 18 = .ok (.iload_n 3, 1) := by decide +kernel
theorem dX5_torn_19 : decode cX5_torn 19 = .ok (.iconst 2, 1) := by decide +kernel
theorem dX5_torn_20 : decode cX5_torn 20 = .ok (.irem, 1) := by decide +kernel
theorem dX5_torn_21 : decode cX5_torn 21 = .ok (.invokevirtual 118, 3) := by decide +kernel
theorem dX5_torn_24 : decode cX5_torn 24 = .ok (.ifCond .lt 16, 3) := by decide +kernel
theorem dX5_torn_27 : decode cX5_torn 27 = .ok (.aload_n 0, 1) := by decide +kernel
theorem dX5_torn_28 : decode cX5_torn 28 = .ok (.getfield 24, 3) := by decide +kernel
theorem dX5_torn_31 : decode cX5_torn 31 = .ok (.iload_n 3, 1) := by decide +kernel
theorem dX5_torn_32 : decode cX5_torn 32 = .ok (.iaload, 1) := by decide +kernel
theorem dX5_torn_33 : decode cX5_torn 33 = .ok (.iload_n 1, 1) := by decide +kernel
theorem dX5_torn_34 : decode cX5_torn 34 = .ok (.if_icmp .lt 6, 3) := by decide +kernel
theorem dX5_torn_37 : decode cX5_torn 37 = .ok (.iinc 2 1, 3) := by decide +kernel
theorem dX5_torn_40 : decode cX5_torn 40 = .ok (.iinc 3 1, 3) := by decide +kernel
theorem dX5_torn_43 : decode cX5_torn 43 = .ok (.goto (-39), 3) := by decide +kernel
theorem dX5_torn_46 : decode cX5_torn 46 = .ok (.iload_n 2, 1) := by decide +kernel
theorem dX5_torn_47 : decode cX5_torn 47 = .ok (.ireturn, 1) := by decide +kernel
def fX5_torn_40 (N : Nat) (k_4 : Int32 → Int32 → Int32 → Int32 → Int32 → List Int32 → Option (Int32)) (x1 : Int32) (x2 : Int32) (x3 : Int32) (v_rows : Int32) (v_cols : Int32) (v_worn : List Int32) : Option (Int32) :=
    mm_nm (x3 + (1 : Int32)) (fun (y_12 : Int32) =>
    k_4 x1 x2 y_12 v_rows v_cols v_worn)

set_option maxHeartbeats 4000000 in
set_option maxRecDepth 100000 in
theorem tX5_torn_40 {p : Program} {l : Launch} {e : Env} {s : State} {m : MethodId} {args : Array Value} {below : List Frame} {meth : Method} {c : Code} {D : va_G} {cI cL cS cH : ClassId} {A : Nat → Prop} {d : Nat} {a : Nat → Nat} (hd : 4 ≤ d) (C0 : mm_Cx p s m args meth c RX5 cX5_torn 4 (some .int) D (mm_T cI cL cS cH) A) (hA : ∀ q, s.heap.size ≤ q → A q) {v_high : Int32} {v_wide : Int32} {v_folds : Int32} {v_wrong : Int32} {v_more : Int32} {v_rowOf : List Int32} {v_colOf : List Int32} {v_below : List Int32} {v_face : List Int32} {v_last : List Int32} {v_bend : List Int32} {v_tall : List Int32} {r : Int32} (N : Nat) {k_4 : Int32 → Int32 → Int32 → Int32 → Int32 → List Int32 → Option (Int32)} (hk_4 : ∀ (x1 : Int32) (x2 : Int32) (x3 : Int32) (v_rows : Int32) (v_cols : Int32) (v_worn : List Int32) (H : Heap) (locs : List Loc) (ls : Array Slot), k_4 x1 x2 x3 v_rows v_cols v_worn = some r → va_P D mm_cl (wd_X5 cI cL cS cH a v_rows v_cols v_high v_wide v_folds v_wrong v_more v_rowOf v_colOf v_below v_face v_worn v_last v_bend v_tall) H → va_D A (wd_X5 cI cL cS cH a v_rows v_cols v_high v_wide v_folds v_wrong v_more v_rowOf v_colOf v_below v_face v_worn v_last v_bend v_tall) → va_S A s.heap H locs → lv_has ls 4 [(0, .ref (a 0)), (1, .int x1), (2, .int x2), (3, .int x3)] → W p l e (mm_rr d) s m args below meth c H locs 0 0 (mm_Z below D A (wd_X5 cI cL cS cH a v_rows v_cols v_high v_wide v_folds v_wrong v_more v_rowOf v_colOf v_below v_face v_worn v_last v_bend v_tall) (some (.int r)) args s) (F0 m 4 ls [])) : ∀ (x1 : Int32) (x2 : Int32) (x3 : Int32) (v_rows : Int32) (v_cols : Int32) (v_worn : List Int32) (H : Heap) (locs : List Loc) (ls : Array Slot), fX5_torn_40 N k_4 x1 x2 x3 v_rows v_cols v_worn = some r → va_P D mm_cl (wd_X5 cI cL cS cH a v_rows v_cols v_high v_wide v_folds v_wrong v_more v_rowOf v_colOf v_below v_face v_worn v_last v_bend v_tall) H → va_D A (wd_X5 cI cL cS cH a v_rows v_cols v_high v_wide v_folds v_wrong v_more v_rowOf v_colOf v_below v_face v_worn v_last v_bend v_tall) → va_S A s.heap H locs → lv_has ls 4 [(0, .ref (a 0)), (1, .int x1), (2, .int x2), (3, .int x3)] → W p l e (mm_rr d) s m args below meth c H locs 0 0 (mm_Z below D A (wd_X5 cI cL cS cH a v_rows v_cols v_high v_wide v_folds v_wrong v_more v_rowOf v_colOf v_below v_face v_worn v_last v_bend v_tall) (some (.int r)) args s) (F0 m 40 ls []) := by
  obtain ⟨hx, hb, hml, hown, hts, hr, hlocks, hK, hSt⟩ := id C0
  intro x1 x2 x3 v_rows v_cols v_worn H locs ls hf hP hD hS hl
  unfold fX5_torn_40 at hf
  obtain ⟨y_12, ey_12⟩ : ∃ z : Int32, z = x3 + (1 : Int32) := ⟨_, rfl⟩
  have hf := mm_nms hf ey_12
  refine lv_iinc (v := y_12) (lv' := [(3, .int y_12), (0, .ref (a 0)), (1, .int x1), (2, .int x2)]) hx hb dX5_torn_40 hl (k := 3) rfl (by rw [ey_12]; rfl) (by decide) rfl (fun ls hl => ?_)
  refine lv_goto (tgt := 4) hx hb dX5_torn_43 (by decide) ?_
  exact hk_4 _ _ _ _ _ _ H locs ls hf hP hD hS (lv_sub hl [1, 2, 3, 0] rfl)

def fX5_torn_4 (N : Nat)  : Nat → Int32 → Int32 → Int32 → Int32 → Int32 → List Int32 → Option (Int32)
  | 0 => fun _ _ _ _ _ _ => none
  | n + 1 => fun x1 x2 x3 v_rows v_cols v_worn =>
    mm_bd1 (fX5_fields N v_rows v_cols) (fun (r_1 : Int32) =>
    if ((2 : Int32) * r_1) ≤ x3 then
    (some (x2))
    else (mm_ck (mm_nz (2 : Int32)) (mm_ck (mm_nz (2 : Int32)) (mm_bd1 (fX5_neighbour N (x3 / (2 : Int32)) (mm_rem x3 (2 : Int32)) v_rows v_cols) (fun (r_6 : Int32) =>
    if r_6 < 0 then
    (fX5_torn_40 N (fX5_torn_4 N n) x1 x2 x3 v_rows v_cols v_worn)
    else (mm_ck (mm_inb x3 v_worn.length) (if (mm_ig v_worn x3) < x1 then
    (fX5_torn_40 N (fX5_torn_4 N n) x1 x2 x3 v_rows v_cols v_worn)
    else (mm_nm (x2 + (1 : Int32)) (fun (y_11 : Int32) =>
    fX5_torn_40 N (fX5_torn_4 N n) x1 y_11 x3 v_rows v_cols v_worn)))))))))

set_option maxHeartbeats 4000000 in
set_option maxRecDepth 100000 in
theorem tX5_torn_4 {p : Program} {l : Launch} {e : Env} {s : State} {m : MethodId} {args : Array Value} {below : List Frame} {meth : Method} {c : Code} {D : va_G} {cI cL cS cH : ClassId} {A : Nat → Prop} {d : Nat} {a : Nat → Nat} (hd : 4 ≤ d) (C0 : mm_Cx p s m args meth c RX5 cX5_torn 4 (some .int) D (mm_T cI cL cS cH) A) (hA : ∀ q, s.heap.size ≤ q → A q) {v_high : Int32} {v_wide : Int32} {v_folds : Int32} {v_wrong : Int32} {v_more : Int32} {v_rowOf : List Int32} {v_colOf : List Int32} {v_below : List Int32} {v_face : List Int32} {v_last : List Int32} {v_bend : List Int32} {v_tall : List Int32} {r : Int32} (N : Nat)  : ∀ (n : Nat), ∀ (x1 : Int32) (x2 : Int32) (x3 : Int32) (v_rows : Int32) (v_cols : Int32) (v_worn : List Int32) (H : Heap) (locs : List Loc) (ls : Array Slot), fX5_torn_4 N n x1 x2 x3 v_rows v_cols v_worn = some r → va_P D mm_cl (wd_X5 cI cL cS cH a v_rows v_cols v_high v_wide v_folds v_wrong v_more v_rowOf v_colOf v_below v_face v_worn v_last v_bend v_tall) H → va_D A (wd_X5 cI cL cS cH a v_rows v_cols v_high v_wide v_folds v_wrong v_more v_rowOf v_colOf v_below v_face v_worn v_last v_bend v_tall) → va_S A s.heap H locs → lv_has ls 4 [(0, .ref (a 0)), (1, .int x1), (2, .int x2), (3, .int x3)] → W p l e (mm_rr d) s m args below meth c H locs 0 0 (mm_Z below D A (wd_X5 cI cL cS cH a v_rows v_cols v_high v_wide v_folds v_wrong v_more v_rowOf v_colOf v_below v_face v_worn v_last v_bend v_tall) (some (.int r)) args s) (F0 m 4 ls []) := by
  obtain ⟨hx, hb, hml, hown, hts, hr, hlocks, hK, hSt⟩ := id C0
  intro n
  induction n with
  | zero =>
    intro x1 x2 x3 v_rows v_cols v_worn H locs ls hf
    cases (show none = some _ from hf)
  | succ n ih =>
    intro x1 x2 x3 v_rows v_cols v_worn H locs ls hf hP hD hS hl
    unfold fX5_torn_4 at hf
    refine lv_iload_n hx hb dX5_torn_4 rfl (lv_at hl 3 rfl) ?_
    refine lv_iconst (v := 2) hx hb dX5_torn_5 (by decide) ?_
    refine lv_aload_n hx hb dX5_torn_6 rfl (lv_at hl 0 rfl) ?_
    obtain ⟨r_1, hc_2, hf⟩ := mm_bd1s hf
    refine mm_callVF (q0 := 0) (ci := 5) (rest := [.int (2 : Int32), .int x3]) C0 lk_X5_84 (ctX5_fields (a := a) (d := d - 1) (by omega) hc_2) (by omega) rfl hl.1 rfl (mm_cat rfl) dX5_torn_7 hP hD hA hS rfl rfl (fun H locs hP hD hS => ?_)
    refine W.eq (g2 := F0 m 10 ls [.int r_1, .int (2 : Int32), .int x3]) rfl ?_
    refine lv_imul hx hb dX5_torn_10 ?_
    refine lv_icmp_ge (tgt := 46) hx hb dX5_torn_11 (by decide) (fun c_3 => ?_) (fun c_3 => ?_)
    · have hf := mm_ip hf c_3
      refine lv_iload_n hx hb dX5_torn_46 rfl (lv_at hl 2 rfl) ?_
      obtain rfl := mm_inj1 hf
      exact mm_iret C0 hP hD hS dX5_torn_47
    · have hf := mm_in hf c_3
      refine lv_aload_n hx hb dX5_torn_14 rfl (lv_at hl 0 rfl) ?_
      refine lv_iload_n hx hb dX5_torn_15 rfl (lv_at hl 3 rfl) ?_
      refine lv_iconst (v := 2) hx hb dX5_torn_16 (by decide) ?_
      obtain ⟨h_4, hf⟩ := mm_cks hf
      refine lv_idiv hx hb dX5_torn_17 (mm_nzs h_4) ?_
      refine lv_iload_n hx hb dX5_torn_18 rfl (lv_at hl 3 rfl) ?_
      refine lv_iconst (v := 2) hx hb dX5_torn_19 (by decide) ?_
      obtain ⟨h_5, hf⟩ := mm_cks hf
      refine lv_irem hx hb dX5_torn_20 (mm_nzs h_5) ?_
      obtain ⟨r_6, hc_7, hf⟩ := mm_bd1s hf
      refine mm_callVF (q0 := 0) (ci := 5) (rest := []) C0 lk_X5_118 (ctX5_neighbour (a := a) (d := d - 1) (by omega) hc_7) (by omega) rfl hl.1 rfl (mm_cat rfl) dX5_torn_21 hP hD hA hS rfl rfl (fun H locs hP hD hS => ?_)
      refine W.eq (g2 := F0 m 24 ls [.int r_6]) rfl ?_
      refine lv_if_lt (tgt := 40) hx hb dX5_torn_24 (by decide) (fun c_8 => ?_) (fun c_8 => ?_)
      · have hf := mm_ip hf c_8
        exact tX5_torn_40 hd C0 hA N ih _ _ _ _ _ _ H locs ls hf hP hD hS (lv_sub hl [0, 1, 2, 3] rfl)
      · have hf := mm_in hf c_8
        refine lv_aload_n hx hb dX5_torn_27 rfl (lv_at hl 0 rfl) ?_
        refine mm_get C0 hP iw_X5 0 rfl rfl 11 (by decide) fl_X5_24 rfl dX5_torn_28 ?_
        refine lv_iload_n hx hb dX5_torn_31 rfl (lv_at hl 3 rfl) ?_
        obtain ⟨h_9, hf⟩ := mm_cks hf
        refine mm_iald C0 hP 5 rfl h_9 dX5_torn_32 ?_
        refine lv_iload_n hx hb dX5_torn_33 rfl (lv_at hl 1 rfl) ?_
        refine lv_icmp_lt (tgt := 40) hx hb dX5_torn_34 (by decide) (fun c_10 => ?_) (fun c_10 => ?_)
        · have hf := mm_ip hf c_10
          exact tX5_torn_40 hd C0 hA N ih _ _ _ _ _ _ H locs ls hf hP hD hS (lv_sub hl [0, 1, 2, 3] rfl)
        · have hf := mm_in hf c_10
          obtain ⟨y_11, ey_11⟩ : ∃ z : Int32, z = x2 + (1 : Int32) := ⟨_, rfl⟩
          have hf := mm_nms hf ey_11
          refine lv_iinc (v := y_11) (lv' := [(2, .int y_11), (0, .ref (a 0)), (1, .int x1), (3, .int x3)]) hx hb dX5_torn_37 hl (k := 2) rfl (by rw [ey_11]; rfl) (by decide) rfl (fun ls hl => ?_)
          exact tX5_torn_40 hd C0 hA N ih _ _ _ _ _ _ H locs ls hf hP hD hS (lv_sub hl [1, 2, 0, 3] rfl)

def fX5_torn (N : Nat) (x1 : Int32) (v_rows : Int32) (v_cols : Int32) (v_worn : List Int32) : Option (Int32) :=
    fX5_torn_4 N N x1 (0 : Int32) (0 : Int32) v_rows v_cols v_worn

set_option maxHeartbeats 4000000 in
set_option maxRecDepth 100000 in
theorem ctX5_torn {l : Launch} {D : va_G} {cI cL cS cH : ClassId} {a : Nat → Nat} {x1 : Int32} {v_rows : Int32} {v_cols : Int32} {v_high : Int32} {v_wide : Int32} {v_folds : Int32} {v_wrong : Int32} {v_more : Int32} {v_rowOf : List Int32} {v_colOf : List Int32} {v_below : List Int32} {v_face : List Int32} {v_worn : List Int32} {v_last : List Int32} {v_bend : List Int32} {v_tall : List Int32} {r : Int32} {N d : Nat} (hd : 4 ≤ d) (hf : fX5_torn N x1 v_rows v_cols v_worn = some r) : mm_Ct l yX5_torn cX5_torn 4 (some .int) d D (mm_T cI cL cS cH) [.ref (a 0), .int x1] (wd_X5 cI cL cS cH a v_rows v_cols v_high v_wide v_folds v_wrong v_more v_rowOf v_colOf v_below v_face v_worn v_last v_bend v_tall) (wd_X5 cI cL cS cH a v_rows v_cols v_high v_wide v_folds v_wrong v_more v_rowOf v_colOf v_below v_face v_worn v_last v_bend v_tall) (some (.int r)) := by
  refine mm_of (by decide) (Nat.le_of_ble_eq_true rfl) ?_
  intro p e s m args below meth c A H locs ls C0 hP hD hA hS hl
  have C0 : mm_Cx p s m args meth c RX5 cX5_torn 4 (some .int) D (mm_T cI cL cS cH) A := C0
  obtain ⟨hx, hb, hml, hown, hts, hr, hlocks, hK, hSt⟩ := id C0
  have hl : lv_has ls 4 [(0, .ref (a 0)), (1, .int x1)] := hl
  unfold fX5_torn at hf
  refine lv_iconst (v := 0) hx hb dX5_torn_0 (by decide) ?_
  refine lv_istore_n (lv' := [(2, .int (0 : Int32)), (0, .ref (a 0)), (1, .int x1)]) hx hb dX5_torn_1 rfl hl (by decide) rfl (fun ls hl => ?_)
  refine lv_iconst (v := 0) hx hb dX5_torn_2 (by decide) ?_
  refine lv_istore_n (lv' := [(3, .int (0 : Int32)), (2, .int (0 : Int32)), (0, .ref (a 0)), (1, .int x1)]) hx hb dX5_torn_3 rfl hl (by decide) rfl (fun ls hl => ?_)
  exact tX5_torn_4 hd C0 hA N  N _ _ _ _ _ _ H locs ls hf hP hD hS (lv_sub hl [2, 3, 1, 0] rfl)

theorem dX5_across_0 : decode cX5_across 0 = .ok (.iload_n 2, 1) := by decide +kernel
theorem dX5_across_1 : decode cX5_across 1 = .ok (.iconst 4, 1) := by decide +kernel
theorem dX5_across_2 : decode cX5_across 2 = .ok (.if_icmp .ge 12, 3) := by decide +kernel
theorem dX5_across_5 : decode cX5_across 5 = .ok (.aload_n 0, 1) := by decide +kernel
theorem dX5_across_6 : decode cX5_across 6 = .ok (.getfield 9, 3) := by decide +kernel
theorem dX5_across_9 : decode cX5_across 9 = .ok (.iload_n 1, 1) := by decide +kernel
theorem dX5_across_10 : decode cX5_across 10 = .ok (.iaload, 1) := by decide +kernel
theorem dX5_across_11 : decode cX5_across 11 = .ok (.goto 9, 3) := by decide +kernel
theorem dX5_across_14 : decode cX5_across 14 = .ok (.aload_n 0, 1) := by decide +kernel
theorem dX5_across_15 : decode cX5_across 15 = .ok (.getfield 15, 3) := by decide +kernel
theorem dX5_across_18 : decode cX5_across 18 = .ok (.iload_n 1, 1) := by decide +kernel
theorem dX5_across_19 : decode cX5_across 19 = .ok (.iaload, 1) := by decide +kernel
theorem dX5_across_20 : decode cX5_across 20 = .ok (.ireturn, 1) := by decide +kernel
def fX5_across (N : Nat) (x1 : Int32) (x2 : Int32) (v_rowOf : List Int32) (v_colOf : List Int32) : Option (Int32) :=
    if (4 : Int32) ≤ x2 then
    (mm_ck (mm_inb x1 v_colOf.length) (some ((mm_ig v_colOf x1))))
    else (mm_ck (mm_inb x1 v_rowOf.length) (some ((mm_ig v_rowOf x1))))

set_option maxHeartbeats 4000000 in
set_option maxRecDepth 100000 in
theorem ctX5_across {l : Launch} {D : va_G} {cI cL cS cH : ClassId} {a : Nat → Nat} {x1 : Int32} {x2 : Int32} {v_rows : Int32} {v_cols : Int32} {v_high : Int32} {v_wide : Int32} {v_folds : Int32} {v_wrong : Int32} {v_more : Int32} {v_rowOf : List Int32} {v_colOf : List Int32} {v_below : List Int32} {v_face : List Int32} {v_worn : List Int32} {v_last : List Int32} {v_bend : List Int32} {v_tall : List Int32} {r : Int32} {N d : Nat} (hd : 1 ≤ d) (hf : fX5_across N x1 x2 v_rowOf v_colOf = some r) : mm_Ct l yX5_across cX5_across 3 (some .int) d D (mm_T cI cL cS cH) [.ref (a 0), .int x1, .int x2] (wd_X5 cI cL cS cH a v_rows v_cols v_high v_wide v_folds v_wrong v_more v_rowOf v_colOf v_below v_face v_worn v_last v_bend v_tall) (wd_X5 cI cL cS cH a v_rows v_cols v_high v_wide v_folds v_wrong v_more v_rowOf v_colOf v_below v_face v_worn v_last v_bend v_tall) (some (.int r)) := by
  refine mm_of (by decide) (Nat.le_of_ble_eq_true rfl) ?_
  intro p e s m args below meth c A H locs ls C0 hP hD hA hS hl
  have C0 : mm_Cx p s m args meth c RX5 cX5_across 3 (some .int) D (mm_T cI cL cS cH) A := C0
  obtain ⟨hx, hb, hml, hown, hts, hr, hlocks, hK, hSt⟩ := id C0
  have hl : lv_has ls 3 [(0, .ref (a 0)), (1, .int x1), (2, .int x2)] := hl
  unfold fX5_across at hf
  refine lv_iload_n hx hb dX5_across_0 rfl (lv_at hl 2 rfl) ?_
  refine lv_iconst (v := 4) hx hb dX5_across_1 (by decide) ?_
  refine lv_icmp_ge (tgt := 14) hx hb dX5_across_2 (by decide) (fun c_1 => ?_) (fun c_1 => ?_)
  · have hf := mm_ip hf c_1
    refine lv_aload_n hx hb dX5_across_14 rfl (lv_at hl 0 rfl) ?_
    refine mm_get C0 hP iw_X5 0 rfl rfl 8 (by decide) fl_X5_15 rfl dX5_across_15 ?_
    refine lv_iload_n hx hb dX5_across_18 rfl (lv_at hl 1 rfl) ?_
    obtain ⟨h_2, hf⟩ := mm_cks hf
    refine mm_iald C0 hP 2 rfl h_2 dX5_across_19 ?_
    obtain rfl := mm_inj1 hf
    exact mm_iret C0 hP hD hS dX5_across_20
  · have hf := mm_in hf c_1
    refine lv_aload_n hx hb dX5_across_5 rfl (lv_at hl 0 rfl) ?_
    refine mm_get C0 hP iw_X5 0 rfl rfl 7 (by decide) fl_X5_9 rfl dX5_across_6 ?_
    refine lv_iload_n hx hb dX5_across_9 rfl (lv_at hl 1 rfl) ?_
    obtain ⟨h_3, hf⟩ := mm_cks hf
    refine mm_iald C0 hP 1 rfl h_3 dX5_across_10 ?_
    refine lv_goto (tgt := 20) hx hb dX5_across_11 (by decide) ?_
    obtain rfl := mm_inj1 hf
    exact mm_iret C0 hP hD hS dX5_across_20

theorem dX5_along_0 : decode cX5_along 0 = .ok (.iload_n 2, 1) := by decide +kernel
theorem dX5_along_1 : decode cX5_along 1 = .ok (.iconst 4, 1) := by decide +kernel
theorem dX5_along_2 : decode cX5_along 2 = .ok (.if_icmp .ge 12, 3) := by decide +kernel
theorem dX5_along_5 : decode cX5_along 5 = .ok (.aload_n 0, 1) := by decide +kernel
theorem dX5_along_6 : decode cX5_along 6 = .ok (.getfield 15, 3) := by decide +kernel
theorem dX5_along_9 : decode cX5_along 9 = .ok (.iload_n 1, 1) := by decide +kernel
theorem dX5_along_10 : decode cX5_along 10 = .ok (.iaload, 1) := by decide +kernel
theorem dX5_along_11 : decode cX5_along 11 = .ok (.goto 9, 3) := by decide +kernel
theorem dX5_along_14 : decode cX5_along 14 = .ok (.aload_n 0, 1) := by decide +kernel
theorem dX5_along_15 : decode cX5_along 15 = .ok (.getfield 9, 3) := by decide +kernel
theorem dX5_along_18 : decode cX5_along 18 = .ok (.iload_n 1, 1) := by decide +kernel
theorem dX5_along_19 : decode cX5_along 19 = .ok (.iaload, 1) := by decide +kernel
theorem dX5_along_20 : decode cX5_along 20 = .ok (.ireturn, 1) := by decide +kernel
def fX5_along (N : Nat) (x1 : Int32) (x2 : Int32) (v_rowOf : List Int32) (v_colOf : List Int32) : Option (Int32) :=
    if (4 : Int32) ≤ x2 then
    (mm_ck (mm_inb x1 v_rowOf.length) (some ((mm_ig v_rowOf x1))))
    else (mm_ck (mm_inb x1 v_colOf.length) (some ((mm_ig v_colOf x1))))

set_option maxHeartbeats 4000000 in
set_option maxRecDepth 100000 in
theorem ctX5_along {l : Launch} {D : va_G} {cI cL cS cH : ClassId} {a : Nat → Nat} {x1 : Int32} {x2 : Int32} {v_rows : Int32} {v_cols : Int32} {v_high : Int32} {v_wide : Int32} {v_folds : Int32} {v_wrong : Int32} {v_more : Int32} {v_rowOf : List Int32} {v_colOf : List Int32} {v_below : List Int32} {v_face : List Int32} {v_worn : List Int32} {v_last : List Int32} {v_bend : List Int32} {v_tall : List Int32} {r : Int32} {N d : Nat} (hd : 1 ≤ d) (hf : fX5_along N x1 x2 v_rowOf v_colOf = some r) : mm_Ct l yX5_along cX5_along 3 (some .int) d D (mm_T cI cL cS cH) [.ref (a 0), .int x1, .int x2] (wd_X5 cI cL cS cH a v_rows v_cols v_high v_wide v_folds v_wrong v_more v_rowOf v_colOf v_below v_face v_worn v_last v_bend v_tall) (wd_X5 cI cL cS cH a v_rows v_cols v_high v_wide v_folds v_wrong v_more v_rowOf v_colOf v_below v_face v_worn v_last v_bend v_tall) (some (.int r)) := by
  refine mm_of (by decide) (Nat.le_of_ble_eq_true rfl) ?_
  intro p e s m args below meth c A H locs ls C0 hP hD hA hS hl
  have C0 : mm_Cx p s m args meth c RX5 cX5_along 3 (some .int) D (mm_T cI cL cS cH) A := C0
  obtain ⟨hx, hb, hml, hown, hts, hr, hlocks, hK, hSt⟩ := id C0
  have hl : lv_has ls 3 [(0, .ref (a 0)), (1, .int x1), (2, .int x2)] := hl
  unfold fX5_along at hf
  refine lv_iload_n hx hb dX5_along_0 rfl (lv_at hl 2 rfl) ?_
  refine lv_iconst (v := 4) hx hb dX5_along_1 (by decide) ?_
  refine lv_icmp_ge (tgt := 14) hx hb dX5_along_2 (by decide) (fun c_1 => ?_) (fun c_1 => ?_)
  · have hf := mm_ip hf c_1
    refine lv_aload_n hx hb dX5_along_14 rfl (lv_at hl 0 rfl) ?_
    refine mm_get C0 hP iw_X5 0 rfl rfl 7 (by decide) fl_X5_9 rfl dX5_along_15 ?_
    refine lv_iload_n hx hb dX5_along_18 rfl (lv_at hl 1 rfl) ?_
    obtain ⟨h_2, hf⟩ := mm_cks hf
    refine mm_iald C0 hP 1 rfl h_2 dX5_along_19 ?_
    obtain rfl := mm_inj1 hf
    exact mm_iret C0 hP hD hS dX5_along_20
  · have hf := mm_in hf c_1
    refine lv_aload_n hx hb dX5_along_5 rfl (lv_at hl 0 rfl) ?_
    refine mm_get C0 hP iw_X5 0 rfl rfl 8 (by decide) fl_X5_15 rfl dX5_along_6 ?_
    refine lv_iload_n hx hb dX5_along_9 rfl (lv_at hl 1 rfl) ?_
    obtain ⟨h_3, hf⟩ := mm_cks hf
    refine mm_iald C0 hP 2 rfl h_3 dX5_along_10 ?_
    refine lv_goto (tgt := 20) hx hb dX5_along_11 (by decide) ?_
    obtain rfl := mm_inj1 hf
    exact mm_iret C0 hP hD hS dX5_along_20

