/-! system: X4_weighv3, X4_seekv3n, X4_isLessv2, X4_weighv2 -/
theorem dX4_weigh_0 : decode cX4_weigh 0 = .ok (.aload_n 0, 1) := by decide +kernel
theorem dX4_weigh_1 : decode cX4_weigh 1 = .ok (.getfield 37, 3) := by decide +kernel
theorem dX4_weigh_4 : decode cX4_weigh 4 = .ok (.ifCond .lt 15, 3) := by decide +kernel
theorem dX4_weigh_7 : decode cX4_weigh 7 = .ok (.aload_n 1, 1) := by decide +kernel
theorem dX4_weigh_8 : decode cX4_weigh 8 = .ok (.aload_n 0, 1) := by decide +kernel
theorem dX4_weigh_9 : decode cX4_weigh 9 = .ok (.getfield 37, 3) := by decide +kernel
theorem dX4_weigh_12 : decode cX4_weigh 12 = .ok (.invokevirtual 88, 3) := by decide +kernel
theorem dX4_weigh_15 : decode cX4_weigh 15 = .ok (.ifCond .ne 4, 3) := by decide +kernel
theorem dX4_weigh_18 : decode cX4_weigh 18 = .ok (.return_, 1) := by decide +kernel
theorem dX4_weigh_19 : decode cX4_weigh 19 = .ok (.aload_n 0, 1) := by decide +kernel
theorem dX4_weigh_20 : decode cX4_weigh 20 = .ok (.getfield 40, 3) := by decide +kernel
theorem dX4_weigh_23 : decode cX4_weigh 23 = .ok (.ifCond .eq 13, 3) := by decide +kernel
theorem dX4_weigh_26 : decode cX4_weigh 26 = .ok (.aload_n 0, 1) := by decide +kernel
theorem dX4_weigh_27 : decode cX4_weigh 27 = .ok (.aload_n 1, 1) := by decide +kernel
theorem dX4_weigh_28 : decode cX4_weigh 28 = .ok (.iload_n 2, 1) := by decide +kernel
theorem dX4_weigh_29 : decode cX4_weigh 29 = .ok (.invokevirtual 92, 3) := by decide +kernel
theorem dX4_weigh_32 : decode cX4_weigh 32 = .ok (.ifCond .ne 4, 3) := by decide +kernel
theorem dX4_weigh_35 : decode cX4_weigh 35 = .ok (.return_, 1) := by decide +kernel
theorem dX4_weigh_36 : decode cX4_weigh 36 = .ok (.aload_n 0, 1) := by decide +kernel
theorem dX4_weigh_37 : decode cX4_weigh 37 = .ok (.iconst 1, 1) := by decide +kernel
theorem dX4_weigh_38 : decode cX4_weigh 38 = .ok (.putfield 40, 3) := by decide +kernel
theorem dX4_weigh_41 : decode cX4_weigh 41 = .ok (.aload_n 0, 1) := by decide +kernel
theorem dX4_weigh_42 : decode cX4_weigh 42 = .ok (.aload_n 1, 1) := by decide +kernel
theorem dX4_weigh_43 : decode cX4_weigh 43 = .ok (.getfield 96, 3) := by decide +kernel
theorem dX4_weigh_46 : decode cX4_weigh 46 = .ok (.putfield 99, 3) := by decide +kernel
theorem dX4_weigh_49 : decode cX4_weigh 49 = .ok (.aload_n 0, 1) := by decide +kernel
theorem dX4_weigh_50 : decode cX4_weigh 50 = .ok (.aload_n 1, 1) := by decide +kernel
theorem dX4_weigh_51 : decode cX4_weigh 51 = .ok (.getfield 100, 3) := by decide +kernel
theorem dX4_weigh_54 : decode cX4_weigh 54 = .ok (.putfield 103, 3) := by decide +kernel
theorem dX4_weigh_57 : decode cX4_weigh 57 = .ok (.aload_n 0, 1) := by decide +kernel
theorem dX4_weigh_58 : decode cX4_weigh 58 = .ok (.iload_n 2, 1) := by decide +kernel
theorem dX4_weigh_59 : decode cX4_weigh 59 = .ok (.putfield 33, 3) := by decide +kernel
theorem dX4_weigh_62 : decode cX4_weigh 62 = .ok (.aload_n 0, 1) := by decide +kernel
theorem dX4_weigh_63 : decode cX4_weigh 63 = .ok (.getfield 17, 3) := by decide +kernel
theorem dX4_weigh_66 : decode cX4_weigh 66 = .ok (.iconst 0, 1) := by decide +kernel
theorem dX4_weigh_67 : decode cX4_weigh 67 = .ok (.aload_n 0, 1) := by decide +kernel
theorem dX4_weigh_68 : decode cX4_weigh 68 = .ok (.getfield 21, 3) := by decide +kernel
theorem dX4_weigh_71 : decode cX4_weigh 71 = .ok (.iconst 0, 1) := by decide +kernel
theorem dX4_weigh_72 : decode cX4_weigh 72 = .ok (.iload_n 2, 1) := by decide +kernel
theorem dX4_weigh_73 : decode cX4_weigh 73 = .ok (.invokestatic 104, 3) := by decide +kernel
theorem dX4_weigh_76 : decode cX4_weigh 76 = .ok (.return_, 1) := by decide +kernel
def fX4_weighv3_36 (N : Nat)  (x2 : Int32) (v_found : Bool) (v_wrong : Int32) (v_more : Int32) (v_folds : Int32) (v_wanted : Int32) (v_levels3_rows : Int32) (v_levels3_cols : Int32) (v_levels3_wrong : Int32) (v_levels3_more : Int32) (v_levels3_rowOf : List Int32) (v_levels3_colOf : List Int32) (v_levels3_below : List Int32) (v_path : List Int32) (v_best : List Int32) : Option (Bool × Int32 × Int32 × Int32 × List Int32) :=
    mm_ck (mm_cok (0 : Int32) (0 : Int32) x2 v_path.length v_best.length) (mm_nm (mm_cp v_path v_best (0 : Int32) (0 : Int32) x2) (fun (l_10 : List Int32) =>
    some (true, v_levels3_wrong, v_levels3_more, x2, l_10)))

set_option maxHeartbeats 4000000 in
set_option maxRecDepth 100000 in
theorem tX4_weighv3_36 {p : Program} {l : Launch} {e : Env} {s : State} {m : MethodId} {args : Array Value} {below : List Frame} {meth : Method} {c : Code} {D : va_G} {cI cL cS cH : ClassId} {A : Nat → Prop} {d : Nat} {a : Nat → Nat} (hd : 5 ≤ d) (C0 : mm_Cx p s m args meth c RX4 cX4_weigh 3 none D (mm_T cI cL cS cH) A) (hA : ∀ q, s.heap.size ≤ q → A q) {v_levels0_rows : Int32} {v_levels0_cols : Int32} {v_levels0_high : Int32} {v_levels0_wide : Int32} {v_levels0_folds : Int32} {v_levels0_wrong : Int32} {v_levels0_more : Int32} {v_levels0_rowOf : List Int32} {v_levels0_colOf : List Int32} {v_levels0_below : List Int32} {v_levels0_face : List Int32} {v_levels0_worn : List Int32} {v_levels0_last : List Int32} {v_levels0_bend : List Int32} {v_levels0_tall : List Int32} {v_levels1_rows : Int32} {v_levels1_cols : Int32} {v_levels1_high : Int32} {v_levels1_wide : Int32} {v_levels1_folds : Int32} {v_levels1_wrong : Int32} {v_levels1_more : Int32} {v_levels1_rowOf : List Int32} {v_levels1_colOf : List Int32} {v_levels1_below : List Int32} {v_levels1_face : List Int32} {v_levels1_worn : List Int32} {v_levels1_last : List Int32} {v_levels1_bend : List Int32} {v_levels1_tall : List Int32} {v_levels2_rows : Int32} {v_levels2_cols : Int32} {v_levels2_high : Int32} {v_levels2_wide : Int32} {v_levels2_folds : Int32} {v_levels2_wrong : Int32} {v_levels2_more : Int32} {v_levels2_rowOf : List Int32} {v_levels2_colOf : List Int32} {v_levels2_below : List Int32} {v_levels2_face : List Int32} {v_levels2_worn : List Int32} {v_levels2_last : List Int32} {v_levels2_bend : List Int32} {v_levels2_tall : List Int32} {v_levels3_high : Int32} {v_levels3_wide : Int32} {v_levels3_folds : Int32} {v_levels3_face : List Int32} {v_levels3_worn : List Int32} {v_levels3_last : List Int32} {v_levels3_bend : List Int32} {v_levels3_tall : List Int32} {w_found : Bool} {w_wrong : Int32} {w_more : Int32} {w_folds : Int32} {w_best : List Int32} (N : Nat)  : ∀ (x2 : Int32) (v_found : Bool) (v_wrong : Int32) (v_more : Int32) (v_folds : Int32) (v_wanted : Int32) (v_levels3_rows : Int32) (v_levels3_cols : Int32) (v_levels3_wrong : Int32) (v_levels3_more : Int32) (v_levels3_rowOf : List Int32) (v_levels3_colOf : List Int32) (v_levels3_below : List Int32) (v_path : List Int32) (v_best : List Int32) (H : Heap) (locs : List Loc) (ls : Array Slot), fX4_weighv3_36 N x2 v_found v_wrong v_more v_folds v_wanted v_levels3_rows v_levels3_cols v_levels3_wrong v_levels3_more v_levels3_rowOf v_levels3_colOf v_levels3_below v_path v_best = some (w_found, w_wrong, w_more, w_folds, w_best) → va_P D mm_cl (wd_X4 cI cL cS cH a v_found v_wrong v_more v_folds v_wanted v_levels0_rows v_levels0_cols v_levels0_high v_levels0_wide v_levels0_folds v_levels0_wrong v_levels0_more v_levels0_rowOf v_levels0_colOf v_levels0_below v_levels0_face v_levels0_worn v_levels0_last v_levels0_bend v_levels0_tall v_levels1_rows v_levels1_cols v_levels1_high v_levels1_wide v_levels1_folds v_levels1_wrong v_levels1_more v_levels1_rowOf v_levels1_colOf v_levels1_below v_levels1_face v_levels1_worn v_levels1_last v_levels1_bend v_levels1_tall v_levels2_rows v_levels2_cols v_levels2_high v_levels2_wide v_levels2_folds v_levels2_wrong v_levels2_more v_levels2_rowOf v_levels2_colOf v_levels2_below v_levels2_face v_levels2_worn v_levels2_last v_levels2_bend v_levels2_tall v_levels3_rows v_levels3_cols v_levels3_high v_levels3_wide v_levels3_folds v_levels3_wrong v_levels3_more v_levels3_rowOf v_levels3_colOf v_levels3_below v_levels3_face v_levels3_worn v_levels3_last v_levels3_bend v_levels3_tall v_path v_best) H → va_D A (wd_X4 cI cL cS cH a v_found v_wrong v_more v_folds v_wanted v_levels0_rows v_levels0_cols v_levels0_high v_levels0_wide v_levels0_folds v_levels0_wrong v_levels0_more v_levels0_rowOf v_levels0_colOf v_levels0_below v_levels0_face v_levels0_worn v_levels0_last v_levels0_bend v_levels0_tall v_levels1_rows v_levels1_cols v_levels1_high v_levels1_wide v_levels1_folds v_levels1_wrong v_levels1_more v_levels1_rowOf v_levels1_colOf v_levels1_below v_levels1_face v_levels1_worn v_levels1_last v_levels1_bend v_levels1_tall v_levels2_rows v_levels2_cols v_levels2_high v_levels2_wide v_levels2_folds v_levels2_wrong v_levels2_more v_levels2_rowOf v_levels2_colOf v_levels2_below v_levels2_face v_levels2_worn v_levels2_last v_levels2_bend v_levels2_tall v_levels3_rows v_levels3_cols v_levels3_high v_levels3_wide v_levels3_folds v_levels3_wrong v_levels3_more v_levels3_rowOf v_levels3_colOf v_levels3_below v_levels3_face v_levels3_worn v_levels3_last v_levels3_bend v_levels3_tall v_path v_best) → va_S A s.heap H locs → lv_has ls 3 [(0, .ref (a 0)), (1, .ref (a 29)), (2, .int x2)] → W p l e (mm_rr d) s m args below meth c H locs 0 0 (mm_Z below D A (wd_X4 cI cL cS cH a w_found w_wrong w_more w_folds v_wanted v_levels0_rows v_levels0_cols v_levels0_high v_levels0_wide v_levels0_folds v_levels0_wrong v_levels0_more v_levels0_rowOf v_levels0_colOf v_levels0_below v_levels0_face v_levels0_worn v_levels0_last v_levels0_bend v_levels0_tall v_levels1_rows v_levels1_cols v_levels1_high v_levels1_wide v_levels1_folds v_levels1_wrong v_levels1_more v_levels1_rowOf v_levels1_colOf v_levels1_below v_levels1_face v_levels1_worn v_levels1_last v_levels1_bend v_levels1_tall v_levels2_rows v_levels2_cols v_levels2_high v_levels2_wide v_levels2_folds v_levels2_wrong v_levels2_more v_levels2_rowOf v_levels2_colOf v_levels2_below v_levels2_face v_levels2_worn v_levels2_last v_levels2_bend v_levels2_tall v_levels3_rows v_levels3_cols v_levels3_high v_levels3_wide v_levels3_folds v_levels3_wrong v_levels3_more v_levels3_rowOf v_levels3_colOf v_levels3_below v_levels3_face v_levels3_worn v_levels3_last v_levels3_bend v_levels3_tall v_path w_best) none args s) (F0 m 36 ls []) := by
  obtain ⟨hx, hb, hml, hown, hts, hr, hlocks, hK, hSt⟩ := id C0
  intro x2 v_found v_wrong v_more v_folds v_wanted v_levels3_rows v_levels3_cols v_levels3_wrong v_levels3_more v_levels3_rowOf v_levels3_colOf v_levels3_below v_path v_best H locs ls hf hP hD hS hl
  unfold fX4_weighv3_36 at hf
  refine lv_aload_n hx hb dX4_weigh_36 rfl (lv_at hl 0 rfl) ?_
  refine lv_iconst (v := 1) hx hb dX4_weigh_37 (by decide) ?_
  refine mm_put C0 hP hD hS iw_X4 tyX4 tyX4_ok nmX4 0 rfl rfl 0 (by decide) fl_X4_40 rfl (v := .int (mm_b true)) mm_bn mm_bf (Nat.le_of_ble_eq_true rfl) dX4_weigh_38 (w2 := (wd_X4 cI cL cS cH a true v_wrong v_more v_folds v_wanted v_levels0_rows v_levels0_cols v_levels0_high v_levels0_wide v_levels0_folds v_levels0_wrong v_levels0_more v_levels0_rowOf v_levels0_colOf v_levels0_below v_levels0_face v_levels0_worn v_levels0_last v_levels0_bend v_levels0_tall v_levels1_rows v_levels1_cols v_levels1_high v_levels1_wide v_levels1_folds v_levels1_wrong v_levels1_more v_levels1_rowOf v_levels1_colOf v_levels1_below v_levels1_face v_levels1_worn v_levels1_last v_levels1_bend v_levels1_tall v_levels2_rows v_levels2_cols v_levels2_high v_levels2_wide v_levels2_folds v_levels2_wrong v_levels2_more v_levels2_rowOf v_levels2_colOf v_levels2_below v_levels2_face v_levels2_worn v_levels2_last v_levels2_bend v_levels2_tall v_levels3_rows v_levels3_cols v_levels3_high v_levels3_wide v_levels3_folds v_levels3_wrong v_levels3_more v_levels3_rowOf v_levels3_colOf v_levels3_below v_levels3_face v_levels3_worn v_levels3_last v_levels3_bend v_levels3_tall v_path v_best)) rfl (fun H locs hP hD hS => ?_)
  refine lv_aload_n hx hb dX4_weigh_41 rfl (lv_at hl 0 rfl) ?_
  refine lv_aload_n hx hb dX4_weigh_42 rfl (lv_at hl 1 rfl) ?_
  refine mm_get C0 hP iw_X5 29 rfl rfl 5 (by decide) fl_X4_96 rfl dX4_weigh_43 ?_
  refine mm_put C0 hP hD hS iw_X4 tyX4 tyX4_ok nmX4 0 rfl rfl 1 (by decide) fl_X4_99 rfl rfl rfl (Nat.le_of_ble_eq_true rfl) dX4_weigh_46 (w2 := (wd_X4 cI cL cS cH a true v_levels3_wrong v_more v_folds v_wanted v_levels0_rows v_levels0_cols v_levels0_high v_levels0_wide v_levels0_folds v_levels0_wrong v_levels0_more v_levels0_rowOf v_levels0_colOf v_levels0_below v_levels0_face v_levels0_worn v_levels0_last v_levels0_bend v_levels0_tall v_levels1_rows v_levels1_cols v_levels1_high v_levels1_wide v_levels1_folds v_levels1_wrong v_levels1_more v_levels1_rowOf v_levels1_colOf v_levels1_below v_levels1_face v_levels1_worn v_levels1_last v_levels1_bend v_levels1_tall v_levels2_rows v_levels2_cols v_levels2_high v_levels2_wide v_levels2_folds v_levels2_wrong v_levels2_more v_levels2_rowOf v_levels2_colOf v_levels2_below v_levels2_face v_levels2_worn v_levels2_last v_levels2_bend v_levels2_tall v_levels3_rows v_levels3_cols v_levels3_high v_levels3_wide v_levels3_folds v_levels3_wrong v_levels3_more v_levels3_rowOf v_levels3_colOf v_levels3_below v_levels3_face v_levels3_worn v_levels3_last v_levels3_bend v_levels3_tall v_path v_best)) rfl (fun H locs hP hD hS => ?_)
  refine lv_aload_n hx hb dX4_weigh_49 rfl (lv_at hl 0 rfl) ?_
  refine lv_aload_n hx hb dX4_weigh_50 rfl (lv_at hl 1 rfl) ?_
  refine mm_get C0 hP iw_X5 29 rfl rfl 6 (by decide) fl_X4_100 rfl dX4_weigh_51 ?_
  refine mm_put C0 hP hD hS iw_X4 tyX4 tyX4_ok nmX4 0 rfl rfl 2 (by decide) fl_X4_103 rfl rfl rfl (Nat.le_of_ble_eq_true rfl) dX4_weigh_54 (w2 := (wd_X4 cI cL cS cH a true v_levels3_wrong v_levels3_more v_folds v_wanted v_levels0_rows v_levels0_cols v_levels0_high v_levels0_wide v_levels0_folds v_levels0_wrong v_levels0_more v_levels0_rowOf v_levels0_colOf v_levels0_below v_levels0_face v_levels0_worn v_levels0_last v_levels0_bend v_levels0_tall v_levels1_rows v_levels1_cols v_levels1_high v_levels1_wide v_levels1_folds v_levels1_wrong v_levels1_more v_levels1_rowOf v_levels1_colOf v_levels1_below v_levels1_face v_levels1_worn v_levels1_last v_levels1_bend v_levels1_tall v_levels2_rows v_levels2_cols v_levels2_high v_levels2_wide v_levels2_folds v_levels2_wrong v_levels2_more v_levels2_rowOf v_levels2_colOf v_levels2_below v_levels2_face v_levels2_worn v_levels2_last v_levels2_bend v_levels2_tall v_levels3_rows v_levels3_cols v_levels3_high v_levels3_wide v_levels3_folds v_levels3_wrong v_levels3_more v_levels3_rowOf v_levels3_colOf v_levels3_below v_levels3_face v_levels3_worn v_levels3_last v_levels3_bend v_levels3_tall v_path v_best)) rfl (fun H locs hP hD hS => ?_)
  refine lv_aload_n hx hb dX4_weigh_57 rfl (lv_at hl 0 rfl) ?_
  refine lv_iload_n hx hb dX4_weigh_58 rfl (lv_at hl 2 rfl) ?_
  refine mm_put C0 hP hD hS iw_X4 tyX4 tyX4_ok nmX4 0 rfl rfl 3 (by decide) fl_X4_33 rfl rfl rfl (Nat.le_of_ble_eq_true rfl) dX4_weigh_59 (w2 := (wd_X4 cI cL cS cH a true v_levels3_wrong v_levels3_more x2 v_wanted v_levels0_rows v_levels0_cols v_levels0_high v_levels0_wide v_levels0_folds v_levels0_wrong v_levels0_more v_levels0_rowOf v_levels0_colOf v_levels0_below v_levels0_face v_levels0_worn v_levels0_last v_levels0_bend v_levels0_tall v_levels1_rows v_levels1_cols v_levels1_high v_levels1_wide v_levels1_folds v_levels1_wrong v_levels1_more v_levels1_rowOf v_levels1_colOf v_levels1_below v_levels1_face v_levels1_worn v_levels1_last v_levels1_bend v_levels1_tall v_levels2_rows v_levels2_cols v_levels2_high v_levels2_wide v_levels2_folds v_levels2_wrong v_levels2_more v_levels2_rowOf v_levels2_colOf v_levels2_below v_levels2_face v_levels2_worn v_levels2_last v_levels2_bend v_levels2_tall v_levels3_rows v_levels3_cols v_levels3_high v_levels3_wide v_levels3_folds v_levels3_wrong v_levels3_more v_levels3_rowOf v_levels3_colOf v_levels3_below v_levels3_face v_levels3_worn v_levels3_last v_levels3_bend v_levels3_tall v_path v_best)) rfl (fun H locs hP hD hS => ?_)
  refine lv_aload_n hx hb dX4_weigh_62 rfl (lv_at hl 0 rfl) ?_
  refine mm_get C0 hP iw_X4 0 rfl rfl 5 (by decide) fl_X4_17 rfl dX4_weigh_63 ?_
  refine lv_iconst (v := 0) hx hb dX4_weigh_66 (by decide) ?_
  refine lv_aload_n hx hb dX4_weigh_67 rfl (lv_at hl 0 rfl) ?_
  refine mm_get C0 hP iw_X4 0 rfl rfl 6 (by decide) fl_X4_21 rfl dX4_weigh_68 ?_
  refine lv_iconst (v := 0) hx hb dX4_weigh_71 (by decide) ?_
  refine lv_iload_n hx hb dX4_weigh_72 rfl (lv_at hl 2 rfl) ?_
  obtain ⟨h_9, hf⟩ := mm_cks hf
  refine mm_copyi C0 la_X4_104 hP hD hS 38 39 rfl rfl h_9 hl.1 (by omega) (mm_cat rfl) dX4_weigh_73 (w2 := (wd_X4 cI cL cS cH a true v_levels3_wrong v_levels3_more x2 v_wanted v_levels0_rows v_levels0_cols v_levels0_high v_levels0_wide v_levels0_folds v_levels0_wrong v_levels0_more v_levels0_rowOf v_levels0_colOf v_levels0_below v_levels0_face v_levels0_worn v_levels0_last v_levels0_bend v_levels0_tall v_levels1_rows v_levels1_cols v_levels1_high v_levels1_wide v_levels1_folds v_levels1_wrong v_levels1_more v_levels1_rowOf v_levels1_colOf v_levels1_below v_levels1_face v_levels1_worn v_levels1_last v_levels1_bend v_levels1_tall v_levels2_rows v_levels2_cols v_levels2_high v_levels2_wide v_levels2_folds v_levels2_wrong v_levels2_more v_levels2_rowOf v_levels2_colOf v_levels2_below v_levels2_face v_levels2_worn v_levels2_last v_levels2_bend v_levels2_tall v_levels3_rows v_levels3_cols v_levels3_high v_levels3_wide v_levels3_folds v_levels3_wrong v_levels3_more v_levels3_rowOf v_levels3_colOf v_levels3_below v_levels3_face v_levels3_worn v_levels3_last v_levels3_bend v_levels3_tall v_path (mm_cp v_path v_best (0 : Int32) (0 : Int32) x2))) rfl (fun H locs hP hD hS => ?_)
  generalize el_10 : (mm_cp v_path v_best (0 : Int32) (0 : Int32) x2) = l_10 at hP hD
  have hf := mm_nms hf el_10.symm
  apply mm_sub5 hf
  exact mm_vret C0 hP hD hS dX4_weigh_76

def fX4_weighv3_19 (N : Nat)  (x2 : Int32) (v_found : Bool) (v_wrong : Int32) (v_more : Int32) (v_folds : Int32) (v_wanted : Int32) (v_levels3_rows : Int32) (v_levels3_cols : Int32) (v_levels3_wrong : Int32) (v_levels3_more : Int32) (v_levels3_rowOf : List Int32) (v_levels3_colOf : List Int32) (v_levels3_below : List Int32) (v_path : List Int32) (v_best : List Int32) : Option (Bool × Int32 × Int32 × Int32 × List Int32) :=
    if v_found = false then
    (fX4_weighv3_36 N x2 v_found v_wrong v_more v_folds v_wanted v_levels3_rows v_levels3_cols v_levels3_wrong v_levels3_more v_levels3_rowOf v_levels3_colOf v_levels3_below v_path v_best)
    else (mm_bd1 (fX4_isLessv3 N x2 v_wrong v_more v_folds v_levels3_wrong v_levels3_more) (fun (r_6 : Bool) =>
    if r_6 = false then
    (some (v_found, v_wrong, v_more, v_folds, v_best))
    else (fX4_weighv3_36 N x2 v_found v_wrong v_more v_folds v_wanted v_levels3_rows v_levels3_cols v_levels3_wrong v_levels3_more v_levels3_rowOf v_levels3_colOf v_levels3_below v_path v_best)))

set_option maxHeartbeats 4000000 in
set_option maxRecDepth 100000 in
theorem tX4_weighv3_19 {p : Program} {l : Launch} {e : Env} {s : State} {m : MethodId} {args : Array Value} {below : List Frame} {meth : Method} {c : Code} {D : va_G} {cI cL cS cH : ClassId} {A : Nat → Prop} {d : Nat} {a : Nat → Nat} (hd : 5 ≤ d) (C0 : mm_Cx p s m args meth c RX4 cX4_weigh 3 none D (mm_T cI cL cS cH) A) (hA : ∀ q, s.heap.size ≤ q → A q) {v_levels0_rows : Int32} {v_levels0_cols : Int32} {v_levels0_high : Int32} {v_levels0_wide : Int32} {v_levels0_folds : Int32} {v_levels0_wrong : Int32} {v_levels0_more : Int32} {v_levels0_rowOf : List Int32} {v_levels0_colOf : List Int32} {v_levels0_below : List Int32} {v_levels0_face : List Int32} {v_levels0_worn : List Int32} {v_levels0_last : List Int32} {v_levels0_bend : List Int32} {v_levels0_tall : List Int32} {v_levels1_rows : Int32} {v_levels1_cols : Int32} {v_levels1_high : Int32} {v_levels1_wide : Int32} {v_levels1_folds : Int32} {v_levels1_wrong : Int32} {v_levels1_more : Int32} {v_levels1_rowOf : List Int32} {v_levels1_colOf : List Int32} {v_levels1_below : List Int32} {v_levels1_face : List Int32} {v_levels1_worn : List Int32} {v_levels1_last : List Int32} {v_levels1_bend : List Int32} {v_levels1_tall : List Int32} {v_levels2_rows : Int32} {v_levels2_cols : Int32} {v_levels2_high : Int32} {v_levels2_wide : Int32} {v_levels2_folds : Int32} {v_levels2_wrong : Int32} {v_levels2_more : Int32} {v_levels2_rowOf : List Int32} {v_levels2_colOf : List Int32} {v_levels2_below : List Int32} {v_levels2_face : List Int32} {v_levels2_worn : List Int32} {v_levels2_last : List Int32} {v_levels2_bend : List Int32} {v_levels2_tall : List Int32} {v_levels3_high : Int32} {v_levels3_wide : Int32} {v_levels3_folds : Int32} {v_levels3_face : List Int32} {v_levels3_worn : List Int32} {v_levels3_last : List Int32} {v_levels3_bend : List Int32} {v_levels3_tall : List Int32} {w_found : Bool} {w_wrong : Int32} {w_more : Int32} {w_folds : Int32} {w_best : List Int32} (N : Nat)  : ∀ (x2 : Int32) (v_found : Bool) (v_wrong : Int32) (v_more : Int32) (v_folds : Int32) (v_wanted : Int32) (v_levels3_rows : Int32) (v_levels3_cols : Int32) (v_levels3_wrong : Int32) (v_levels3_more : Int32) (v_levels3_rowOf : List Int32) (v_levels3_colOf : List Int32) (v_levels3_below : List Int32) (v_path : List Int32) (v_best : List Int32) (H : Heap) (locs : List Loc) (ls : Array Slot), fX4_weighv3_19 N x2 v_found v_wrong v_more v_folds v_wanted v_levels3_rows v_levels3_cols v_levels3_wrong v_levels3_more v_levels3_rowOf v_levels3_colOf v_levels3_below v_path v_best = some (w_found, w_wrong, w_more, w_folds, w_best) → va_P D mm_cl (wd_X4 cI cL cS cH a v_found v_wrong v_more v_folds v_wanted v_levels0_rows v_levels0_cols v_levels0_high v_levels0_wide v_levels0_folds v_levels0_wrong v_levels0_more v_levels0_rowOf v_levels0_colOf v_levels0_below v_levels0_face v_levels0_worn v_levels0_last v_levels0_bend v_levels0_tall v_levels1_rows v_levels1_cols v_levels1_high v_levels1_wide v_levels1_folds v_levels1_wrong v_levels1_more v_levels1_rowOf v_levels1_colOf v_levels1_below v_levels1_face v_levels1_worn v_levels1_last v_levels1_bend v_levels1_tall v_levels2_rows v_levels2_cols v_levels2_high v_levels2_wide v_levels2_folds v_levels2_wrong v_levels2_more v_levels2_rowOf v_levels2_colOf v_levels2_below v_levels2_face v_levels2_worn v_levels2_last v_levels2_bend v_levels2_tall v_levels3_rows v_levels3_cols v_levels3_high v_levels3_wide v_levels3_folds v_levels3_wrong v_levels3_more v_levels3_rowOf v_levels3_colOf v_levels3_below v_levels3_face v_levels3_worn v_levels3_last v_levels3_bend v_levels3_tall v_path v_best) H → va_D A (wd_X4 cI cL cS cH a v_found v_wrong v_more v_folds v_wanted v_levels0_rows v_levels0_cols v_levels0_high v_levels0_wide v_levels0_folds v_levels0_wrong v_levels0_more v_levels0_rowOf v_levels0_colOf v_levels0_below v_levels0_face v_levels0_worn v_levels0_last v_levels0_bend v_levels0_tall v_levels1_rows v_levels1_cols v_levels1_high v_levels1_wide v_levels1_folds v_levels1_wrong v_levels1_more v_levels1_rowOf v_levels1_colOf v_levels1_below v_levels1_face v_levels1_worn v_levels1_last v_levels1_bend v_levels1_tall v_levels2_rows v_levels2_cols v_levels2_high v_levels2_wide v_levels2_folds v_levels2_wrong v_levels2_more v_levels2_rowOf v_levels2_colOf v_levels2_below v_levels2_face v_levels2_worn v_levels2_last v_levels2_bend v_levels2_tall v_levels3_rows v_levels3_cols v_levels3_high v_levels3_wide v_levels3_folds v_levels3_wrong v_levels3_more v_levels3_rowOf v_levels3_colOf v_levels3_below v_levels3_face v_levels3_worn v_levels3_last v_levels3_bend v_levels3_tall v_path v_best) → va_S A s.heap H locs → lv_has ls 3 [(0, .ref (a 0)), (1, .ref (a 29)), (2, .int x2)] → W p l e (mm_rr d) s m args below meth c H locs 0 0 (mm_Z below D A (wd_X4 cI cL cS cH a w_found w_wrong w_more w_folds v_wanted v_levels0_rows v_levels0_cols v_levels0_high v_levels0_wide v_levels0_folds v_levels0_wrong v_levels0_more v_levels0_rowOf v_levels0_colOf v_levels0_below v_levels0_face v_levels0_worn v_levels0_last v_levels0_bend v_levels0_tall v_levels1_rows v_levels1_cols v_levels1_high v_levels1_wide v_levels1_folds v_levels1_wrong v_levels1_more v_levels1_rowOf v_levels1_colOf v_levels1_below v_levels1_face v_levels1_worn v_levels1_last v_levels1_bend v_levels1_tall v_levels2_rows v_levels2_cols v_levels2_high v_levels2_wide v_levels2_folds v_levels2_wrong v_levels2_more v_levels2_rowOf v_levels2_colOf v_levels2_below v_levels2_face v_levels2_worn v_levels2_last v_levels2_bend v_levels2_tall v_levels3_rows v_levels3_cols v_levels3_high v_levels3_wide v_levels3_folds v_levels3_wrong v_levels3_more v_levels3_rowOf v_levels3_colOf v_levels3_below v_levels3_face v_levels3_worn v_levels3_last v_levels3_bend v_levels3_tall v_path w_best) none args s) (F0 m 19 ls []) := by
  obtain ⟨hx, hb, hml, hown, hts, hr, hlocks, hK, hSt⟩ := id C0
  intro x2 v_found v_wrong v_more v_folds v_wanted v_levels3_rows v_levels3_cols v_levels3_wrong v_levels3_more v_levels3_rowOf v_levels3_colOf v_levels3_below v_path v_best H locs ls hf hP hD hS hl
  unfold fX4_weighv3_19 at hf
  refine lv_aload_n hx hb dX4_weigh_19 rfl (lv_at hl 0 rfl) ?_
  refine mm_get C0 hP iw_X4 0 rfl rfl 0 (by decide) fl_X4_40 rfl dX4_weigh_20 ?_
  refine lv_if_eq (tgt := 36) hx hb dX4_weigh_23 (by decide) (fun c_5 => ?_) (fun c_5 => ?_)
  · have hf := mm_ip hf (mm_b0 c_5)
    exact tX4_weighv3_36 hd C0 hA N  _ _ _ _ _ _ _ _ _ _ _ _ _ _ _ H locs ls hf hP hD hS (lv_sub hl [0, 1, 2] rfl)
  · have hf := mm_in hf (mm_b1 c_5)
    refine lv_aload_n hx hb dX4_weigh_26 rfl (lv_at hl 0 rfl) ?_
    refine lv_aload_n hx hb dX4_weigh_27 rfl (lv_at hl 1 rfl) ?_
    refine lv_iload_n hx hb dX4_weigh_28 rfl (lv_at hl 2 rfl) ?_
    obtain ⟨r_6, hc_7, hf⟩ := mm_bd1s hf
    refine mm_callVF (q0 := 0) (ci := 4) (rest := []) C0 lk_X4_92 (ctX4_isLessv3 (a := a) (d := d - 1) (by omega) hc_7) (by omega) rfl hl.1 rfl (mm_cat rfl) dX4_weigh_29 hP hD hA hS rfl rfl (fun H locs hP hD hS => ?_)
    refine W.eq (g2 := F0 m 32 ls [.int (mm_b r_6)]) rfl ?_
    refine lv_if_ne (tgt := 36) hx hb dX4_weigh_32 (by decide) (fun c_8 => ?_) (fun c_8 => ?_)
    · have hf := mm_in hf (mm_b1 c_8)
      exact tX4_weighv3_36 hd C0 hA N  _ _ _ _ _ _ _ _ _ _ _ _ _ _ _ H locs ls hf hP hD hS (lv_sub hl [0, 1, 2] rfl)
    · have hf := mm_ip hf (mm_b0 c_8)
      apply mm_sub5 hf
      exact mm_vret C0 hP hD hS dX4_weigh_35

def fX4_weighv3 (N : Nat) (x2 : Int32) (v_found : Bool) (v_wrong : Int32) (v_more : Int32) (v_folds : Int32) (v_wanted : Int32) (v_levels3_rows : Int32) (v_levels3_cols : Int32) (v_levels3_wrong : Int32) (v_levels3_more : Int32) (v_levels3_rowOf : List Int32) (v_levels3_colOf : List Int32) (v_levels3_below : List Int32) (v_path : List Int32) (v_best : List Int32) : Option (Bool × Int32 × Int32 × Int32 × List Int32) :=
    if v_wanted < 0 then
    (fX4_weighv3_19 N x2 v_found v_wrong v_more v_folds v_wanted v_levels3_rows v_levels3_cols v_levels3_wrong v_levels3_more v_levels3_rowOf v_levels3_colOf v_levels3_below v_path v_best)
    else (mm_bd1 (fX5_isTop N v_wanted v_levels3_rows v_levels3_cols v_levels3_rowOf v_levels3_colOf v_levels3_below) (fun (r_2 : Bool) =>
    if r_2 = false then
    (some (v_found, v_wrong, v_more, v_folds, v_best))
    else (fX4_weighv3_19 N x2 v_found v_wrong v_more v_folds v_wanted v_levels3_rows v_levels3_cols v_levels3_wrong v_levels3_more v_levels3_rowOf v_levels3_colOf v_levels3_below v_path v_best)))

set_option maxHeartbeats 4000000 in
set_option maxRecDepth 100000 in
theorem ctX4_weighv3 {l : Launch} {D : va_G} {cI cL cS cH : ClassId} {a : Nat → Nat} {x2 : Int32} {v_found : Bool} {v_wrong : Int32} {v_more : Int32} {v_folds : Int32} {v_wanted : Int32} {v_levels0_rows : Int32} {v_levels0_cols : Int32} {v_levels0_high : Int32} {v_levels0_wide : Int32} {v_levels0_folds : Int32} {v_levels0_wrong : Int32} {v_levels0_more : Int32} {v_levels0_rowOf : List Int32} {v_levels0_colOf : List Int32} {v_levels0_below : List Int32} {v_levels0_face : List Int32} {v_levels0_worn : List Int32} {v_levels0_last : List Int32} {v_levels0_bend : List Int32} {v_levels0_tall : List Int32} {v_levels1_rows : Int32} {v_levels1_cols : Int32} {v_levels1_high : Int32} {v_levels1_wide : Int32} {v_levels1_folds : Int32} {v_levels1_wrong : Int32} {v_levels1_more : Int32} {v_levels1_rowOf : List Int32} {v_levels1_colOf : List Int32} {v_levels1_below : List Int32} {v_levels1_face : List Int32} {v_levels1_worn : List Int32} {v_levels1_last : List Int32} {v_levels1_bend : List Int32} {v_levels1_tall : List Int32} {v_levels2_rows : Int32} {v_levels2_cols : Int32} {v_levels2_high : Int32} {v_levels2_wide : Int32} {v_levels2_folds : Int32} {v_levels2_wrong : Int32} {v_levels2_more : Int32} {v_levels2_rowOf : List Int32} {v_levels2_colOf : List Int32} {v_levels2_below : List Int32} {v_levels2_face : List Int32} {v_levels2_worn : List Int32} {v_levels2_last : List Int32} {v_levels2_bend : List Int32} {v_levels2_tall : List Int32} {v_levels3_rows : Int32} {v_levels3_cols : Int32} {v_levels3_high : Int32} {v_levels3_wide : Int32} {v_levels3_folds : Int32} {v_levels3_wrong : Int32} {v_levels3_more : Int32} {v_levels3_rowOf : List Int32} {v_levels3_colOf : List Int32} {v_levels3_below : List Int32} {v_levels3_face : List Int32} {v_levels3_worn : List Int32} {v_levels3_last : List Int32} {v_levels3_bend : List Int32} {v_levels3_tall : List Int32} {v_path : List Int32} {v_best : List Int32} {w_found : Bool} {w_wrong : Int32} {w_more : Int32} {w_folds : Int32} {w_best : List Int32} {N d : Nat} (hd : 5 ≤ d) (hf : fX4_weighv3 N x2 v_found v_wrong v_more v_folds v_wanted v_levels3_rows v_levels3_cols v_levels3_wrong v_levels3_more v_levels3_rowOf v_levels3_colOf v_levels3_below v_path v_best = some (w_found, w_wrong, w_more, w_folds, w_best)) : mm_Ct l yX4_weigh cX4_weigh 3 none d D (mm_T cI cL cS cH) [.ref (a 0), .ref (a 29), .int x2] (wd_X4 cI cL cS cH a v_found v_wrong v_more v_folds v_wanted v_levels0_rows v_levels0_cols v_levels0_high v_levels0_wide v_levels0_folds v_levels0_wrong v_levels0_more v_levels0_rowOf v_levels0_colOf v_levels0_below v_levels0_face v_levels0_worn v_levels0_last v_levels0_bend v_levels0_tall v_levels1_rows v_levels1_cols v_levels1_high v_levels1_wide v_levels1_folds v_levels1_wrong v_levels1_more v_levels1_rowOf v_levels1_colOf v_levels1_below v_levels1_face v_levels1_worn v_levels1_last v_levels1_bend v_levels1_tall v_levels2_rows v_levels2_cols v_levels2_high v_levels2_wide v_levels2_folds v_levels2_wrong v_levels2_more v_levels2_rowOf v_levels2_colOf v_levels2_below v_levels2_face v_levels2_worn v_levels2_last v_levels2_bend v_levels2_tall v_levels3_rows v_levels3_cols v_levels3_high v_levels3_wide v_levels3_folds v_levels3_wrong v_levels3_more v_levels3_rowOf v_levels3_colOf v_levels3_below v_levels3_face v_levels3_worn v_levels3_last v_levels3_bend v_levels3_tall v_path v_best) (wd_X4 cI cL cS cH a w_found w_wrong w_more w_folds v_wanted v_levels0_rows v_levels0_cols v_levels0_high v_levels0_wide v_levels0_folds v_levels0_wrong v_levels0_more v_levels0_rowOf v_levels0_colOf v_levels0_below v_levels0_face v_levels0_worn v_levels0_last v_levels0_bend v_levels0_tall v_levels1_rows v_levels1_cols v_levels1_high v_levels1_wide v_levels1_folds v_levels1_wrong v_levels1_more v_levels1_rowOf v_levels1_colOf v_levels1_below v_levels1_face v_levels1_worn v_levels1_last v_levels1_bend v_levels1_tall v_levels2_rows v_levels2_cols v_levels2_high v_levels2_wide v_levels2_folds v_levels2_wrong v_levels2_more v_levels2_rowOf v_levels2_colOf v_levels2_below v_levels2_face v_levels2_worn v_levels2_last v_levels2_bend v_levels2_tall v_levels3_rows v_levels3_cols v_levels3_high v_levels3_wide v_levels3_folds v_levels3_wrong v_levels3_more v_levels3_rowOf v_levels3_colOf v_levels3_below v_levels3_face v_levels3_worn v_levels3_last v_levels3_bend v_levels3_tall v_path w_best) none := by
  refine mm_of (by decide) (Nat.le_of_ble_eq_true rfl) ?_
  intro p e s m args below meth c A H locs ls C0 hP hD hA hS hl
  have C0 : mm_Cx p s m args meth c RX4 cX4_weigh 3 none D (mm_T cI cL cS cH) A := C0
  obtain ⟨hx, hb, hml, hown, hts, hr, hlocks, hK, hSt⟩ := id C0
  have hl : lv_has ls 3 [(0, .ref (a 0)), (1, .ref (a 29)), (2, .int x2)] := hl
  unfold fX4_weighv3 at hf
  refine lv_aload_n hx hb dX4_weigh_0 rfl (lv_at hl 0 rfl) ?_
  refine mm_get C0 hP iw_X4 0 rfl rfl 7 (by decide) fl_X4_37 rfl dX4_weigh_1 ?_
  refine lv_if_lt (tgt := 19) hx hb dX4_weigh_4 (by decide) (fun c_1 => ?_) (fun c_1 => ?_)
  · have hf := mm_ip hf c_1
    exact tX4_weighv3_19 hd C0 hA N  _ _ _ _ _ _ _ _ _ _ _ _ _ _ _ H locs ls hf hP hD hS (lv_sub hl [0, 1, 2] rfl)
  · have hf := mm_in hf c_1
    refine lv_aload_n hx hb dX4_weigh_7 rfl (lv_at hl 1 rfl) ?_
    refine lv_aload_n hx hb dX4_weigh_8 rfl (lv_at hl 0 rfl) ?_
    refine mm_get C0 hP iw_X4 0 rfl rfl 7 (by decide) fl_X4_37 rfl dX4_weigh_9 ?_
    obtain ⟨r_2, hc_3, hf⟩ := mm_bd1s hf
    refine mm_callW (q0 := 29) (ci := 5) (w2 := (wd_X4 cI cL cS cH a v_found v_wrong v_more v_folds v_wanted v_levels0_rows v_levels0_cols v_levels0_high v_levels0_wide v_levels0_folds v_levels0_wrong v_levels0_more v_levels0_rowOf v_levels0_colOf v_levels0_below v_levels0_face v_levels0_worn v_levels0_last v_levels0_bend v_levels0_tall v_levels1_rows v_levels1_cols v_levels1_high v_levels1_wide v_levels1_folds v_levels1_wrong v_levels1_more v_levels1_rowOf v_levels1_colOf v_levels1_below v_levels1_face v_levels1_worn v_levels1_last v_levels1_bend v_levels1_tall v_levels2_rows v_levels2_cols v_levels2_high v_levels2_wide v_levels2_folds v_levels2_wrong v_levels2_more v_levels2_rowOf v_levels2_colOf v_levels2_below v_levels2_face v_levels2_worn v_levels2_last v_levels2_bend v_levels2_tall v_levels3_rows v_levels3_cols v_levels3_high v_levels3_wide v_levels3_folds v_levels3_wrong v_levels3_more v_levels3_rowOf v_levels3_colOf v_levels3_below v_levels3_face v_levels3_worn v_levels3_last v_levels3_bend v_levels3_tall v_path v_best)) (rest := []) C0 lk_X4_88 (ctX5_isTop (a := (fun k => a (k + 29))) (d := d - 1) (by omega) hc_3) (by omega) rfl hl.1 rfl (mm_cat rfl) dX4_weigh_12 hP hD hA hS rfl rfl [false, false, false, false, false, false, false, false, false, false, false, false, false, false, false, false, false, false, false, false, false, false, false, false, false, false, false, false, false, true, true, true, true, true, true, true, true, true, false, false] rfl rfl rfl rfl (fun H locs hP hD hS => ?_)
    refine W.eq (g2 := F0 m 15 ls [.int (mm_b r_2)]) rfl ?_
    refine lv_if_ne (tgt := 19) hx hb dX4_weigh_15 (by decide) (fun c_4 => ?_) (fun c_4 => ?_)
    · have hf := mm_in hf (mm_b1 c_4)
      exact tX4_weighv3_19 hd C0 hA N  _ _ _ _ _ _ _ _ _ _ _ _ _ _ _ H locs ls hf hP hD hS (lv_sub hl [0, 1, 2] rfl)
    · have hf := mm_ip hf (mm_b0 c_4)
      apply mm_sub5 hf
      exact mm_vret C0 hP hD hS dX4_weigh_18

theorem dX4_seek_0 : decode cX4_seek 0 = .ok (.aload_n 0, 1) := by decide +kernel
theorem dX4_seek_1 : decode cX4_seek 1 = .ok (.getfield 11, 3) := by decide +kernel
theorem dX4_seek_4 : decode cX4_seek 4 = .ok (.iload_n 1, 1) := by decide +kernel
theorem dX4_seek_5 : decode cX4_seek 5 = .ok (.aaload, 1) := by decide +kernel
theorem dX4_seek_6 : decode cX4_seek 6 = .ok (.astore 4, 2) := by decide +kernel
theorem dX4_seek_8 : decode cX4_seek 8 = .ok (.aload 4, 2) := by decide +kernel
theorem dX4_seek_10 : decode cX4_seek 10 = .ok (.invokevirtual 48, 3) := by decide +kernel
theorem dX4_seek_13 : decode cX4_seek 13 = .ok (.iconst 1, 1) := by decide +kernel
theorem dX4_seek_14 : decode cX4_seek 14 = .ok (.if_icmp .ne 11, 3) := by decide +kernel
theorem dX4_seek_17 : decode cX4_seek 17 = .ok (.aload_n 0, 1) := by decide +kernel
theorem dX4_seek_18 : decode cX4_seek 18 = .ok (.aload 4, 2) := by decide +kernel
theorem dX4_seek_20 : decode cX4_seek 20 = .ok (.iload_n 1, 1) := by decide +kernel
theorem dX4_seek_21 : decode cX4_seek 21 = .ok (.invokevirtual 52, 3) := by decide +kernel
theorem dX4_seek_24 : decode cX4_seek 24 = .ok (.return_, 1) := by decide +kernel
theorem dX4_seek_25 : decode cX4_seek 25 = .ok (.iconst 3, 1) := by decide +kernel
theorem dX4_seek_26 : decode cX4_seek 26 = .ok (.iload_n 1, 1) := by decide +kernel
theorem dX4_seek_27 : decode cX4_seek 27 = .ok (.isub, 1) := by decide +kernel
theorem dX4_seek_28 : decode cX4_seek 28 = .ok (.iconst 1, 1) := by decide +kernel
theorem dX4_seek_29 : decode cX4_seek 29 = .ok (.isub, 1) := by decide +kernel
theorem dX4_seek_30 : decode cX4_seek 30 = .ok (.istore 5, 2) := by decide +kernel
theorem dX4_seek_32 : decode cX4_seek 32 = .ok (.iload 5, 2) := by decide +kernel
theorem dX4_seek_34 : decode cX4_seek 34 = .ok (.ifCond .ge 4, 3) := by decide +kernel
theorem dX4_seek_37 : decode cX4_seek 37 = .ok (.return_, 1) := by decide +kernel
theorem dX4_seek_38 : decode cX4_seek 38 = .ok (.iconst 1, 1) := by decide +kernel
theorem dX4_seek_39 : decode cX4_seek 39 = .ok (.istore 6, 2) := by decide +kernel
theorem dX4_seek_41 : decode cX4_seek 41 = .ok (.iload 6, 2) := by decide +kernel
theorem dX4_seek_43 : decode cX4_seek 43 = .ok (.bipush 7, 2) := by decide +kernel
theorem dX4_seek_45 : decode cX4_seek 45 = .ok (.if_icmp .gt 119, 3) := by decide +kernel
theorem dX4_seek_48 : decode cX4_seek 48 = .ok (.iconst 0, 1) := by decide +kernel
theorem dX4_seek_49 : decode cX4_seek 49 = .ok (.istore 7, 2) := by decide +kernel
theorem dX4_seek_51 : decode cX4_seek 51 = .ok (.iload 7, 2) := by decide +kernel
theorem dX4_seek_53 : decode cX4_seek 53 = .ok (.bipush 8, 2) := by decide +kernel
theorem dX4_seek_55 : decode cX4_seek 55 = .ok (.if_icmp .ge 103, 3) := by decide +kernel
theorem dX4_seek_58 : decode cX4_seek 58 = .ok (.aload 4, 2) := by decide +kernel
theorem dX4_seek_60 : decode cX4_seek 60 = .ok (.iload 6, 2) := by decide +kernel
theorem dX4_seek_62 : decode cX4_seek 62 = .ok (.iload 7, 2) := by decide +kernel
theorem dX4_seek_64 : decode cX4_seek 64 = .ok (.invokevirtual 55, 3) := by decide +kernel
theorem dX4_seek_67 : decode cX4_seek 67 = .ok (.ifCond .eq 85, 3) := by decide +kernel
theorem dX4_seek_70 : decode cX4_seek 70 = .ok (.aload 4, 2) := by decide +kernel
theorem dX4_seek_72 : decode cX4_seek 72 = .ok (.iload 6, 2) := by decide +kernel
theorem dX4_seek_74 : decode cX4_seek 74 = .ok (.iload 7, 2) := by decide +kernel
theorem dX4_seek_76 : decode cX4_seek 76 = .ok (.iload 5, 2) := by decide +kernel
theorem dX4_seek_78 : decode cX4_seek 78 = .ok (.invokestatic 59, 3) := by decide +kernel
theorem dX4_seek_81 : decode cX4_seek 81 = .ok (.ifCond .eq 71, 3) := by decide +kernel
theorem dX4_seek_84 : decode cX4_seek 84 = .ok (.aload_n 0, 1) := by decide +kernel
theorem dX4_seek_85 : decode cX4_seek 85 = .ok (.getfield 11, 3) := by decide +kernel
theorem dX4_seek_88 : decode cX4_seek 88 = .ok (.iload_n 1, 1) := by decide +kernel
theorem dX4_seek_89 : decode cX4_seek 89 = .ok (.iconst 1, 1) := by decide +kernel
theorem dX4_seek_90 : decode cX4_seek 90 = .ok (.iadd, 1) := by decide +kernel
theorem dX4_seek_91 : decode cX4_seek 91 = .ok (.aaload, 1) := by decide +kernel
theorem dX4_seek_92 : decode cX4_seek 92 = .ok (.astore 8, 2) := by decide +kernel
theorem dX4_seek_94 : decode cX4_seek 94 = .ok (.aload 8, 2) := by decide +kernel
theorem dX4_seek_96 : decode cX4_seek 96 = .ok (.aload 4, 2) := by decide +kernel
theorem dX4_seek_98 : decode cX4_seek 98 = .ok (.invokevirtual 63, 3) := by decide +kernel
theorem dX4_seek_101 : decode cX4_seek 101 = .ok (.aload_n 3, 1) := by decide +kernel
theorem dX4_seek_102 : decode cX4_seek 102 = .ok (.ifnonnull 15, 3) := by decide +kernel
theorem dX4_seek_105 : decode cX4_seek 105 = .ok (.aload 8, 2) := by decide +kernel
theorem dX4_seek_107 : decode cX4_seek 107 = .ok (.iload 6, 2) := by decide +kernel
theorem dX4_seek_109 : decode cX4_seek 109 = .ok (.iload 7, 2) := by decide +kernel
theorem dX4_seek_111 : decode cX4_seek 111 = .ok (.invokevirtual 66, 3) := by decide +kernel
theorem dX4_seek_114 : decode cX4_seek 114 = .ok (.goto 15, 3) := by decide +kernel
theorem dX4_seek_117 : decode cX4_seek 117 = .ok (.aload 8, 2) := by decide +kernel
theorem dX4_seek_119 : decode cX4_seek 119 = .ok (.iload 6, 2) := by decide +kernel
theorem dX4_seek_121 : decode cX4_seek 121 = .ok (.iload 7, 2) := by decide +kernel
theorem dX4_seek_123 : decode cX4_seek 123 = .ok (.iload_n 2, 1) := by decide +kernel
theorem dX4_seek_124 : decode cX4_seek 124 = .ok (.aload_n 3, 1) := by decide +kernel
theorem dX4_seek_125 : decode cX4_seek 125 = .ok (.invokevirtual 70, 3) := by decide +kernel
theorem dX4_seek_128 : decode cX4_seek 128 = .ok (.pop, 1) := by decide +kernel
theorem dX4_seek_129 : decode cX4_seek 129 = .ok (.aload_n 0, 1) := by decide +kernel
theorem dX4_seek_130 : decode cX4_seek 130 = .ok (.getfield 17, 3) := by decide +kernel
theorem dX4_seek_133 : decode cX4_seek 133 = .ok (.iload_n 1, 1) := by decide +kernel
theorem dX4_seek_134 : decode cX4_seek 134 = .ok (.bipush 10, 2) := by decide +kernel
theorem dX4_seek_136 : decode cX4_seek 136 = .ok (.iload 6, 2) := by decide +kernel
theorem dX4_seek_138 : decode cX4_seek 138 = .ok (.imul, 1) := by decide +kernel
theorem dX4_seek_139 : decode cX4_seek 139 = .ok (.iload 7, 2) := by decide +kernel
theorem dX4_seek_141 : decode cX4_seek 141 = .ok (.iadd, 1) := by decide +kernel
theorem dX4_seek_142 : decode cX4_seek 142 = .ok (.iastore, 1) := by decide +kernel
theorem dX4_seek_143 : decode cX4_seek 143 = .ok (.aload_n 0, 1) := by decide +kernel
theorem dX4_seek_144 : decode cX4_seek 144 = .ok (.iload_n 1, 1) := by decide +kernel
theorem dX4_seek_145 : decode cX4_seek 145 = .ok (.iconst 1, 1) := by decide +kernel
theorem dX4_seek_146 : decode cX4_seek 146 = .ok (.iadd, 1) := by decide +kernel
theorem dX4_seek_147 : decode cX4_seek 147 = .ok (.iload_n 2, 1) := by decide +kernel
theorem dX4_seek_148 : decode cX4_seek 148 = .ok (.aload_n 3, 1) := by decide +kernel
theorem dX4_seek_149 : decode cX4_seek 149 = .ok (.invokevirtual 29, 3) := by decide +kernel
theorem dX4_seek_152 : decode cX4_seek 152 = .ok (.iinc 7 1, 3) := by decide +kernel
theorem dX4_seek_155 : decode cX4_seek 155 = .ok (.goto (-104), 3) := by decide +kernel
theorem dX4_seek_158 : decode cX4_seek 158 = .ok (.iinc 6 1, 3) := by decide +kernel
theorem dX4_seek_161 : decode cX4_seek 161 = .ok (.goto (-120), 3) := by decide +kernel
theorem dX4_seek_164 : decode cX4_seek 164 = .ok (.return_, 1) := by decide +kernel
def fX4_seekv3n (N : Nat) (x2 : Int32) (v_found : Bool) (v_wrong : Int32) (v_more : Int32) (v_folds : Int32) (v_wanted : Int32) (v_levels3_rows : Int32) (v_levels3_cols : Int32) (v_levels3_high : Int32) (v_levels3_wide : Int32) (v_levels3_wrong : Int32) (v_levels3_more : Int32) (v_levels3_rowOf : List Int32) (v_levels3_colOf : List Int32) (v_levels3_below : List Int32) (v_path : List Int32) (v_best : List Int32) : Option (Bool × Int32 × Int32 × Int32 × List Int32) :=
    mm_bd1 (fX5_piles N v_levels3_high v_levels3_wide) (fun (r_1 : Int32) =>
    if r_1 = (1 : Int32) then
    (mm_bd5 (fX4_weighv3 N (3 : Int32) v_found v_wrong v_more v_folds v_wanted v_levels3_rows v_levels3_cols v_levels3_wrong v_levels3_more v_levels3_rowOf v_levels3_colOf v_levels3_below v_path v_best) (fun (w_5 : Bool) (w_6 : Int32) (w_7 : Int32) (w_8 : Int32) (w_9 : List Int32) =>
    some (w_5, w_6, w_7, w_8, w_9)))
    else (some (v_found, v_wrong, v_more, v_folds, v_best)))

set_option maxHeartbeats 4000000 in
set_option maxRecDepth 100000 in
theorem ctX4_seekv3n {l : Launch} {D : va_G} {cI cL cS cH : ClassId} {a : Nat → Nat} {x2 : Int32} {v_found : Bool} {v_wrong : Int32} {v_more : Int32} {v_folds : Int32} {v_wanted : Int32} {v_levels0_rows : Int32} {v_levels0_cols : Int32} {v_levels0_high : Int32} {v_levels0_wide : Int32} {v_levels0_folds : Int32} {v_levels0_wrong : Int32} {v_levels0_more : Int32} {v_levels0_rowOf : List Int32} {v_levels0_colOf : List Int32} {v_levels0_below : List Int32} {v_levels0_face : List Int32} {v_levels0_worn : List Int32} {v_levels0_last : List Int32} {v_levels0_bend : List Int32} {v_levels0_tall : List Int32} {v_levels1_rows : Int32} {v_levels1_cols : Int32} {v_levels1_high : Int32} {v_levels1_wide : Int32} {v_levels1_folds : Int32} {v_levels1_wrong : Int32} {v_levels1_more : Int32} {v_levels1_rowOf : List Int32} {v_levels1_colOf : List Int32} {v_levels1_below : List Int32} {v_levels1_face : List Int32} {v_levels1_worn : List Int32} {v_levels1_last : List Int32} {v_levels1_bend : List Int32} {v_levels1_tall : List Int32} {v_levels2_rows : Int32} {v_levels2_cols : Int32} {v_levels2_high : Int32} {v_levels2_wide : Int32} {v_levels2_folds : Int32} {v_levels2_wrong : Int32} {v_levels2_more : Int32} {v_levels2_rowOf : List Int32} {v_levels2_colOf : List Int32} {v_levels2_below : List Int32} {v_levels2_face : List Int32} {v_levels2_worn : List Int32} {v_levels2_last : List Int32} {v_levels2_bend : List Int32} {v_levels2_tall : List Int32} {v_levels3_rows : Int32} {v_levels3_cols : Int32} {v_levels3_high : Int32} {v_levels3_wide : Int32} {v_levels3_folds : Int32} {v_levels3_wrong : Int32} {v_levels3_more : Int32} {v_levels3_rowOf : List Int32} {v_levels3_colOf : List Int32} {v_levels3_below : List Int32} {v_levels3_face : List Int32} {v_levels3_worn : List Int32} {v_levels3_last : List Int32} {v_levels3_bend : List Int32} {v_levels3_tall : List Int32} {v_path : List Int32} {v_best : List Int32} {w_found : Bool} {w_wrong : Int32} {w_more : Int32} {w_folds : Int32} {w_best : List Int32} {N d : Nat} (hd : 6 ≤ d) (hf : fX4_seekv3n N x2 v_found v_wrong v_more v_folds v_wanted v_levels3_rows v_levels3_cols v_levels3_high v_levels3_wide v_levels3_wrong v_levels3_more v_levels3_rowOf v_levels3_colOf v_levels3_below v_path v_best = some (w_found, w_wrong, w_more, w_folds, w_best)) : mm_Ct l yX4_seek cX4_seek 9 none d D (mm_T cI cL cS cH) [.ref (a 0), .int (3 : Int32), .int x2, .null] (wd_X4 cI cL cS cH a v_found v_wrong v_more v_folds v_wanted v_levels0_rows v_levels0_cols v_levels0_high v_levels0_wide v_levels0_folds v_levels0_wrong v_levels0_more v_levels0_rowOf v_levels0_colOf v_levels0_below v_levels0_face v_levels0_worn v_levels0_last v_levels0_bend v_levels0_tall v_levels1_rows v_levels1_cols v_levels1_high v_levels1_wide v_levels1_folds v_levels1_wrong v_levels1_more v_levels1_rowOf v_levels1_colOf v_levels1_below v_levels1_face v_levels1_worn v_levels1_last v_levels1_bend v_levels1_tall v_levels2_rows v_levels2_cols v_levels2_high v_levels2_wide v_levels2_folds v_levels2_wrong v_levels2_more v_levels2_rowOf v_levels2_colOf v_levels2_below v_levels2_face v_levels2_worn v_levels2_last v_levels2_bend v_levels2_tall v_levels3_rows v_levels3_cols v_levels3_high v_levels3_wide v_levels3_folds v_levels3_wrong v_levels3_more v_levels3_rowOf v_levels3_colOf v_levels3_below v_levels3_face v_levels3_worn v_levels3_last v_levels3_bend v_levels3_tall v_path v_best) (wd_X4 cI cL cS cH a w_found w_wrong w_more w_folds v_wanted v_levels0_rows v_levels0_cols v_levels0_high v_levels0_wide v_levels0_folds v_levels0_wrong v_levels0_more v_levels0_rowOf v_levels0_colOf v_levels0_below v_levels0_face v_levels0_worn v_levels0_last v_levels0_bend v_levels0_tall v_levels1_rows v_levels1_cols v_levels1_high v_levels1_wide v_levels1_folds v_levels1_wrong v_levels1_more v_levels1_rowOf v_levels1_colOf v_levels1_below v_levels1_face v_levels1_worn v_levels1_last v_levels1_bend v_levels1_tall v_levels2_rows v_levels2_cols v_levels2_high v_levels2_wide v_levels2_folds v_levels2_wrong v_levels2_more v_levels2_rowOf v_levels2_colOf v_levels2_below v_levels2_face v_levels2_worn v_levels2_last v_levels2_bend v_levels2_tall v_levels3_rows v_levels3_cols v_levels3_high v_levels3_wide v_levels3_folds v_levels3_wrong v_levels3_more v_levels3_rowOf v_levels3_colOf v_levels3_below v_levels3_face v_levels3_worn v_levels3_last v_levels3_bend v_levels3_tall v_path w_best) none := by
  refine mm_of (by decide) (Nat.le_of_ble_eq_true rfl) ?_
  intro p e s m args below meth c A H locs ls C0 hP hD hA hS hl
  have C0 : mm_Cx p s m args meth c RX4 cX4_seek 9 none D (mm_T cI cL cS cH) A := C0
  obtain ⟨hx, hb, hml, hown, hts, hr, hlocks, hK, hSt⟩ := id C0
  have hl : lv_has ls 9 [(0, .ref (a 0)), (1, .int (3 : Int32)), (2, .int x2), (3, .null)] := hl
  unfold fX4_seekv3n at hf
  refine lv_aload_n hx hb dX4_seek_0 rfl (lv_at hl 0 rfl) ?_
  refine mm_get C0 hP iw_X4 0 rfl rfl 4 (by decide) fl_X4_11 rfl dX4_seek_1 ?_
  refine lv_iload_n hx hb dX4_seek_4 rfl (lv_at hl 1 rfl) ?_
  refine mm_aald 2 rfl C0 hP 1 rfl (b := a 29) rfl rfl dX4_seek_5 ?_
  refine lv_astore (lv' := [(4, .ref (a 29)), (0, .ref (a 0)), (1, .int (3 : Int32)), (2, .int x2), (3, .null)]) hx hb dX4_seek_6 hl (by decide) rfl (fun ls hl => ?_)
  refine lv_aload hx hb dX4_seek_8 (lv_at hl 0 rfl) ?_
  obtain ⟨r_1, hc_2, hf⟩ := mm_bd1s hf
  refine mm_callW (q0 := 29) (ci := 5) (w2 := (wd_X4 cI cL cS cH a v_found v_wrong v_more v_folds v_wanted v_levels0_rows v_levels0_cols v_levels0_high v_levels0_wide v_levels0_folds v_levels0_wrong v_levels0_more v_levels0_rowOf v_levels0_colOf v_levels0_below v_levels0_face v_levels0_worn v_levels0_last v_levels0_bend v_levels0_tall v_levels1_rows v_levels1_cols v_levels1_high v_levels1_wide v_levels1_folds v_levels1_wrong v_levels1_more v_levels1_rowOf v_levels1_colOf v_levels1_below v_levels1_face v_levels1_worn v_levels1_last v_levels1_bend v_levels1_tall v_levels2_rows v_levels2_cols v_levels2_high v_levels2_wide v_levels2_folds v_levels2_wrong v_levels2_more v_levels2_rowOf v_levels2_colOf v_levels2_below v_levels2_face v_levels2_worn v_levels2_last v_levels2_bend v_levels2_tall v_levels3_rows v_levels3_cols v_levels3_high v_levels3_wide v_levels3_folds v_levels3_wrong v_levels3_more v_levels3_rowOf v_levels3_colOf v_levels3_below v_levels3_face v_levels3_worn v_levels3_last v_levels3_bend v_levels3_tall v_path v_best)) (rest := []) C0 lk_X4_48 (ctX5_piles (a := (fun k => a (k + 29))) (d := d - 1) (by omega) hc_2) (by omega) rfl hl.1 rfl (mm_cat rfl) dX4_seek_10 hP hD hA hS rfl rfl [false, false, false, false, false, false, false, false, false, false, false, false, false, false, false, false, false, false, false, false, false, false, false, false, false, false, false, false, false, true, true, true, true, true, true, true, true, true, false, false] rfl rfl rfl rfl (fun H locs hP hD hS => ?_)
  refine W.eq (g2 := F0 m 13 ls [.int r_1]) rfl ?_
  refine lv_iconst (v := 1) hx hb dX4_seek_13 (by decide) ?_
  refine lv_icmp_ne (tgt := 25) hx hb dX4_seek_14 (by decide) (fun c_3 => ?_) (fun c_3 => ?_)
  · have hf := mm_in hf c_3
    refine lv_iconst (v := 3) hx hb dX4_seek_25 (by decide) ?_
    refine lv_iload_n hx hb dX4_seek_26 rfl (lv_at hl 2 rfl) ?_
    refine lv_isub hx hb dX4_seek_27 ?_
    refine W.eq (g2 := F0 m 28 ls [.int (0 : Int32)]) rfl ?_
    refine lv_iconst (v := 1) hx hb dX4_seek_28 (by decide) ?_
    refine lv_isub hx hb dX4_seek_29 ?_
    refine W.eq (g2 := F0 m 30 ls [.int (-1 : Int32)]) rfl ?_
    refine lv_istore (lv' := [(5, .int (-1 : Int32)), (4, .ref (a 29)), (0, .ref (a 0)), (1, .int (3 : Int32)), (2, .int x2), (3, .null)]) hx hb dX4_seek_30 hl (by decide) rfl (fun ls hl => ?_)
    refine lv_iload hx hb dX4_seek_32 (lv_at hl 0 rfl) ?_
    refine lv_if_ge (tgt := 38) hx hb dX4_seek_34 (by decide) (fun c_4 => ?_) (fun c_4 => ?_)
    · exact absurd c_4 (by decide)
    · skip
      apply mm_sub5 hf
      exact mm_vret C0 hP hD hS dX4_seek_37
  · have hf := mm_ip hf c_3
    refine lv_aload_n hx hb dX4_seek_17 rfl (lv_at hl 1 rfl) ?_
    refine lv_aload hx hb dX4_seek_18 (lv_at hl 0 rfl) ?_
    refine lv_iload_n hx hb dX4_seek_20 rfl (lv_at hl 2 rfl) ?_
    obtain ⟨w_5, w_6, w_7, w_8, w_9, hc_10, hf⟩ := mm_bd5s hf
    refine mm_callVF (q0 := 0) (ci := 4) (rest := []) C0 lk_X4_52 (ctX4_weighv3 (a := a) (d := d - 1) (by omega) hc_10) (by omega) rfl hl.1 rfl (mm_cat rfl) dX4_seek_21 hP hD hA hS rfl rfl (fun H locs hP hD hS => ?_)
    refine W.eq (g2 := F0 m 24 ls []) rfl ?_
    apply mm_sub5 hf
    exact mm_vret C0 hP hD hS dX4_seek_24


def fX4_isLessv2 (N : Nat) (x2 : Int32) (v_wrong : Int32) (v_more : Int32) (v_folds : Int32) (v_levels2_wrong : Int32) (v_levels2_more : Int32) : Option (Bool) :=
    if v_levels2_wrong = v_wrong then
    (if v_levels2_more = v_more then
    (if v_folds ≤ x2 then
    (some (false))
    else (some (true)))
    else (if v_more ≤ v_levels2_more then
    (some (false))
    else (some (true))))
    else (if v_wrong ≤ v_levels2_wrong then
    (some (false))
    else (some (true)))

set_option maxHeartbeats 4000000 in
set_option maxRecDepth 100000 in
theorem ctX4_isLessv2 {l : Launch} {D : va_G} {cI cL cS cH : ClassId} {a : Nat → Nat} {x2 : Int32} {v_found : Bool} {v_wrong : Int32} {v_more : Int32} {v_folds : Int32} {v_wanted : Int32} {v_levels0_rows : Int32} {v_levels0_cols : Int32} {v_levels0_high : Int32} {v_levels0_wide : Int32} {v_levels0_folds : Int32} {v_levels0_wrong : Int32} {v_levels0_more : Int32} {v_levels0_rowOf : List Int32} {v_levels0_colOf : List Int32} {v_levels0_below : List Int32} {v_levels0_face : List Int32} {v_levels0_worn : List Int32} {v_levels0_last : List Int32} {v_levels0_bend : List Int32} {v_levels0_tall : List Int32} {v_levels1_rows : Int32} {v_levels1_cols : Int32} {v_levels1_high : Int32} {v_levels1_wide : Int32} {v_levels1_folds : Int32} {v_levels1_wrong : Int32} {v_levels1_more : Int32} {v_levels1_rowOf : List Int32} {v_levels1_colOf : List Int32} {v_levels1_below : List Int32} {v_levels1_face : List Int32} {v_levels1_worn : List Int32} {v_levels1_last : List Int32} {v_levels1_bend : List Int32} {v_levels1_tall : List Int32} {v_levels2_rows : Int32} {v_levels2_cols : Int32} {v_levels2_high : Int32} {v_levels2_wide : Int32} {v_levels2_folds : Int32} {v_levels2_wrong : Int32} {v_levels2_more : Int32} {v_levels2_rowOf : List Int32} {v_levels2_colOf : List Int32} {v_levels2_below : List Int32} {v_levels2_face : List Int32} {v_levels2_worn : List Int32} {v_levels2_last : List Int32} {v_levels2_bend : List Int32} {v_levels2_tall : List Int32} {v_levels3_rows : Int32} {v_levels3_cols : Int32} {v_levels3_high : Int32} {v_levels3_wide : Int32} {v_levels3_folds : Int32} {v_levels3_wrong : Int32} {v_levels3_more : Int32} {v_levels3_rowOf : List Int32} {v_levels3_colOf : List Int32} {v_levels3_below : List Int32} {v_levels3_face : List Int32} {v_levels3_worn : List Int32} {v_levels3_last : List Int32} {v_levels3_bend : List Int32} {v_levels3_tall : List Int32} {v_path : List Int32} {v_best : List Int32} {r : Bool} {N d : Nat} (hd : 1 ≤ d) (hf : fX4_isLessv2 N x2 v_wrong v_more v_folds v_levels2_wrong v_levels2_more = some r) : mm_Ct l yX4_isLess cX4_isLess 3 (some .boolean) d D (mm_T cI cL cS cH) [.ref (a 0), .ref (a 20), .int x2] (wd_X4 cI cL cS cH a v_found v_wrong v_more v_folds v_wanted v_levels0_rows v_levels0_cols v_levels0_high v_levels0_wide v_levels0_folds v_levels0_wrong v_levels0_more v_levels0_rowOf v_levels0_colOf v_levels0_below v_levels0_face v_levels0_worn v_levels0_last v_levels0_bend v_levels0_tall v_levels1_rows v_levels1_cols v_levels1_high v_levels1_wide v_levels1_folds v_levels1_wrong v_levels1_more v_levels1_rowOf v_levels1_colOf v_levels1_below v_levels1_face v_levels1_worn v_levels1_last v_levels1_bend v_levels1_tall v_levels2_rows v_levels2_cols v_levels2_high v_levels2_wide v_levels2_folds v_levels2_wrong v_levels2_more v_levels2_rowOf v_levels2_colOf v_levels2_below v_levels2_face v_levels2_worn v_levels2_last v_levels2_bend v_levels2_tall v_levels3_rows v_levels3_cols v_levels3_high v_levels3_wide v_levels3_folds v_levels3_wrong v_levels3_more v_levels3_rowOf v_levels3_colOf v_levels3_below v_levels3_face v_levels3_worn v_levels3_last v_levels3_bend v_levels3_tall v_path v_best) (wd_X4 cI cL cS cH a v_found v_wrong v_more v_folds v_wanted v_levels0_rows v_levels0_cols v_levels0_high v_levels0_wide v_levels0_folds v_levels0_wrong v_levels0_more v_levels0_rowOf v_levels0_colOf v_levels0_below v_levels0_face v_levels0_worn v_levels0_last v_levels0_bend v_levels0_tall v_levels1_rows v_levels1_cols v_levels1_high v_levels1_wide v_levels1_folds v_levels1_wrong v_levels1_more v_levels1_rowOf v_levels1_colOf v_levels1_below v_levels1_face v_levels1_worn v_levels1_last v_levels1_bend v_levels1_tall v_levels2_rows v_levels2_cols v_levels2_high v_levels2_wide v_levels2_folds v_levels2_wrong v_levels2_more v_levels2_rowOf v_levels2_colOf v_levels2_below v_levels2_face v_levels2_worn v_levels2_last v_levels2_bend v_levels2_tall v_levels3_rows v_levels3_cols v_levels3_high v_levels3_wide v_levels3_folds v_levels3_wrong v_levels3_more v_levels3_rowOf v_levels3_colOf v_levels3_below v_levels3_face v_levels3_worn v_levels3_last v_levels3_bend v_levels3_tall v_path v_best) (some (.int (mm_b r))) := by
  refine mm_of (by decide) (Nat.le_of_ble_eq_true rfl) ?_
  intro p e s m args below meth c A H locs ls C0 hP hD hA hS hl
  have C0 : mm_Cx p s m args meth c RX4 cX4_isLess 3 (some .boolean) D (mm_T cI cL cS cH) A := C0
  obtain ⟨hx, hb, hml, hown, hts, hr, hlocks, hK, hSt⟩ := id C0
  have hl : lv_has ls 3 [(0, .ref (a 0)), (1, .ref (a 20)), (2, .int x2)] := hl
  unfold fX4_isLessv2 at hf
  refine lv_aload_n hx hb dX4_isLess_0 rfl (lv_at hl 1 rfl) ?_
  refine mm_get C0 hP iw_X5 20 rfl rfl 5 (by decide) fl_X4_96 rfl dX4_isLess_1 ?_
  refine lv_aload_n hx hb dX4_isLess_4 rfl (lv_at hl 0 rfl) ?_
  refine mm_get C0 hP iw_X4 0 rfl rfl 1 (by decide) fl_X4_99 rfl dX4_isLess_5 ?_
  refine lv_icmp_eq (tgt := 28) hx hb dX4_isLess_8 (by decide) (fun c_1 => ?_) (fun c_1 => ?_)
  · have hf := mm_ip hf c_1
    refine lv_aload_n hx hb dX4_isLess_28 rfl (lv_at hl 1 rfl) ?_
    refine mm_get C0 hP iw_X5 20 rfl rfl 6 (by decide) fl_X4_100 rfl dX4_isLess_29 ?_
    refine lv_aload_n hx hb dX4_isLess_32 rfl (lv_at hl 0 rfl) ?_
    refine mm_get C0 hP iw_X4 0 rfl rfl 2 (by decide) fl_X4_103 rfl dX4_isLess_33 ?_
    refine lv_icmp_eq (tgt := 56) hx hb dX4_isLess_36 (by decide) (fun c_2 => ?_) (fun c_2 => ?_)
    · have hf := mm_ip hf c_2
      refine lv_iload_n hx hb dX4_isLess_56 rfl (lv_at hl 2 rfl) ?_
      refine lv_aload_n hx hb dX4_isLess_57 rfl (lv_at hl 0 rfl) ?_
      refine mm_get C0 hP iw_X4 0 rfl rfl 3 (by decide) fl_X4_33 rfl dX4_isLess_58 ?_
      refine lv_icmp_ge (tgt := 68) hx hb dX4_isLess_61 (by decide) (fun c_3 => ?_) (fun c_3 => ?_)
      · have hf := mm_ip hf c_3
        refine lv_iconst (v := 0) hx hb dX4_isLess_68 (by decide) ?_
        obtain rfl := mm_inj1 hf
        exact mm_zret (v := false) C0 hP hD hS dX4_isLess_69 (by decide)
      · have hf := mm_in hf c_3
        refine lv_iconst (v := 1) hx hb dX4_isLess_64 (by decide) ?_
        refine lv_goto (tgt := 69) hx hb dX4_isLess_65 (by decide) ?_
        obtain rfl := mm_inj1 hf
        exact mm_zret (v := true) C0 hP hD hS dX4_isLess_69 (by decide)
    · have hf := mm_in hf c_2
      refine lv_aload_n hx hb dX4_isLess_39 rfl (lv_at hl 1 rfl) ?_
      refine mm_get C0 hP iw_X5 20 rfl rfl 6 (by decide) fl_X4_100 rfl dX4_isLess_40 ?_
      refine lv_aload_n hx hb dX4_isLess_43 rfl (lv_at hl 0 rfl) ?_
      refine mm_get C0 hP iw_X4 0 rfl rfl 2 (by decide) fl_X4_103 rfl dX4_isLess_44 ?_
      refine lv_icmp_ge (tgt := 54) hx hb dX4_isLess_47 (by decide) (fun c_4 => ?_) (fun c_4 => ?_)
      · have hf := mm_ip hf c_4
        refine lv_iconst (v := 0) hx hb dX4_isLess_54 (by decide) ?_
        obtain rfl := mm_inj1 hf
        exact mm_zret (v := false) C0 hP hD hS dX4_isLess_55 (by decide)
      · have hf := mm_in hf c_4
        refine lv_iconst (v := 1) hx hb dX4_isLess_50 (by decide) ?_
        refine lv_goto (tgt := 55) hx hb dX4_isLess_51 (by decide) ?_
        obtain rfl := mm_inj1 hf
        exact mm_zret (v := true) C0 hP hD hS dX4_isLess_55 (by decide)
  · have hf := mm_in hf c_1
    refine lv_aload_n hx hb dX4_isLess_11 rfl (lv_at hl 1 rfl) ?_
    refine mm_get C0 hP iw_X5 20 rfl rfl 5 (by decide) fl_X4_96 rfl dX4_isLess_12 ?_
    refine lv_aload_n hx hb dX4_isLess_15 rfl (lv_at hl 0 rfl) ?_
    refine mm_get C0 hP iw_X4 0 rfl rfl 1 (by decide) fl_X4_99 rfl dX4_isLess_16 ?_
    refine lv_icmp_ge (tgt := 26) hx hb dX4_isLess_19 (by decide) (fun c_5 => ?_) (fun c_5 => ?_)
    · have hf := mm_ip hf c_5
      refine lv_iconst (v := 0) hx hb dX4_isLess_26 (by decide) ?_
      obtain rfl := mm_inj1 hf
      exact mm_zret (v := false) C0 hP hD hS dX4_isLess_27 (by decide)
    · have hf := mm_in hf c_5
      refine lv_iconst (v := 1) hx hb dX4_isLess_22 (by decide) ?_
      refine lv_goto (tgt := 27) hx hb dX4_isLess_23 (by decide) ?_
      obtain rfl := mm_inj1 hf
      exact mm_zret (v := true) C0 hP hD hS dX4_isLess_27 (by decide)


def fX4_weighv2_36 (N : Nat)  (x2 : Int32) (v_found : Bool) (v_wrong : Int32) (v_more : Int32) (v_folds : Int32) (v_wanted : Int32) (v_levels2_rows : Int32) (v_levels2_cols : Int32) (v_levels2_wrong : Int32) (v_levels2_more : Int32) (v_levels2_rowOf : List Int32) (v_levels2_colOf : List Int32) (v_levels2_below : List Int32) (v_path : List Int32) (v_best : List Int32) : Option (Bool × Int32 × Int32 × Int32 × List Int32) :=
    mm_ck (mm_cok (0 : Int32) (0 : Int32) x2 v_path.length v_best.length) (mm_nm (mm_cp v_path v_best (0 : Int32) (0 : Int32) x2) (fun (l_10 : List Int32) =>
    some (true, v_levels2_wrong, v_levels2_more, x2, l_10)))

set_option maxHeartbeats 4000000 in
set_option maxRecDepth 100000 in
theorem tX4_weighv2_36 {p : Program} {l : Launch} {e : Env} {s : State} {m : MethodId} {args : Array Value} {below : List Frame} {meth : Method} {c : Code} {D : va_G} {cI cL cS cH : ClassId} {A : Nat → Prop} {d : Nat} {a : Nat → Nat} (hd : 5 ≤ d) (C0 : mm_Cx p s m args meth c RX4 cX4_weigh 3 none D (mm_T cI cL cS cH) A) (hA : ∀ q, s.heap.size ≤ q → A q) {v_levels0_rows : Int32} {v_levels0_cols : Int32} {v_levels0_high : Int32} {v_levels0_wide : Int32} {v_levels0_folds : Int32} {v_levels0_wrong : Int32} {v_levels0_more : Int32} {v_levels0_rowOf : List Int32} {v_levels0_colOf : List Int32} {v_levels0_below : List Int32} {v_levels0_face : List Int32} {v_levels0_worn : List Int32} {v_levels0_last : List Int32} {v_levels0_bend : List Int32} {v_levels0_tall : List Int32} {v_levels1_rows : Int32} {v_levels1_cols : Int32} {v_levels1_high : Int32} {v_levels1_wide : Int32} {v_levels1_folds : Int32} {v_levels1_wrong : Int32} {v_levels1_more : Int32} {v_levels1_rowOf : List Int32} {v_levels1_colOf : List Int32} {v_levels1_below : List Int32} {v_levels1_face : List Int32} {v_levels1_worn : List Int32} {v_levels1_last : List Int32} {v_levels1_bend : List Int32} {v_levels1_tall : List Int32} {v_levels2_high : Int32} {v_levels2_wide : Int32} {v_levels2_folds : Int32} {v_levels2_face : List Int32} {v_levels2_worn : List Int32} {v_levels2_last : List Int32} {v_levels2_bend : List Int32} {v_levels2_tall : List Int32} {v_levels3_rows : Int32} {v_levels3_cols : Int32} {v_levels3_high : Int32} {v_levels3_wide : Int32} {v_levels3_folds : Int32} {v_levels3_wrong : Int32} {v_levels3_more : Int32} {v_levels3_rowOf : List Int32} {v_levels3_colOf : List Int32} {v_levels3_below : List Int32} {v_levels3_face : List Int32} {v_levels3_worn : List Int32} {v_levels3_last : List Int32} {v_levels3_bend : List Int32} {v_levels3_tall : List Int32} {w_found : Bool} {w_wrong : Int32} {w_more : Int32} {w_folds : Int32} {w_best : List Int32} (N : Nat)  : ∀ (x2 : Int32) (v_found : Bool) (v_wrong : Int32) (v_more : Int32) (v_folds : Int32) (v_wanted : Int32) (v_levels2_rows : Int32) (v_levels2_cols : Int32) (v_levels2_wrong : Int32) (v_levels2_more : Int32) (v_levels2_rowOf : List Int32) (v_levels2_colOf : List Int32) (v_levels2_below : List Int32) (v_path : List Int32) (v_best : List Int32) (H : Heap) (locs : List Loc) (ls : Array Slot), fX4_weighv2_36 N x2 v_found v_wrong v_more v_folds v_wanted v_levels2_rows v_levels2_cols v_levels2_wrong v_levels2_more v_levels2_rowOf v_levels2_colOf v_levels2_below v_path v_best = some (w_found, w_wrong, w_more, w_folds, w_best) → va_P D mm_cl (wd_X4 cI cL cS cH a v_found v_wrong v_more v_folds v_wanted v_levels0_rows v_levels0_cols v_levels0_high v_levels0_wide v_levels0_folds v_levels0_wrong v_levels0_more v_levels0_rowOf v_levels0_colOf v_levels0_below v_levels0_face v_levels0_worn v_levels0_last v_levels0_bend v_levels0_tall v_levels1_rows v_levels1_cols v_levels1_high v_levels1_wide v_levels1_folds v_levels1_wrong v_levels1_more v_levels1_rowOf v_levels1_colOf v_levels1_below v_levels1_face v_levels1_worn v_levels1_last v_levels1_bend v_levels1_tall v_levels2_rows v_levels2_cols v_levels2_high v_levels2_wide v_levels2_folds v_levels2_wrong v_levels2_more v_levels2_rowOf v_levels2_colOf v_levels2_below v_levels2_face v_levels2_worn v_levels2_last v_levels2_bend v_levels2_tall v_levels3_rows v_levels3_cols v_levels3_high v_levels3_wide v_levels3_folds v_levels3_wrong v_levels3_more v_levels3_rowOf v_levels3_colOf v_levels3_below v_levels3_face v_levels3_worn v_levels3_last v_levels3_bend v_levels3_tall v_path v_best) H → va_D A (wd_X4 cI cL cS cH a v_found v_wrong v_more v_folds v_wanted v_levels0_rows v_levels0_cols v_levels0_high v_levels0_wide v_levels0_folds v_levels0_wrong v_levels0_more v_levels0_rowOf v_levels0_colOf v_levels0_below v_levels0_face v_levels0_worn v_levels0_last v_levels0_bend v_levels0_tall v_levels1_rows v_levels1_cols v_levels1_high v_levels1_wide v_levels1_folds v_levels1_wrong v_levels1_more v_levels1_rowOf v_levels1_colOf v_levels1_below v_levels1_face v_levels1_worn v_levels1_last v_levels1_bend v_levels1_tall v_levels2_rows v_levels2_cols v_levels2_high v_levels2_wide v_levels2_folds v_levels2_wrong v_levels2_more v_levels2_rowOf v_levels2_colOf v_levels2_below v_levels2_face v_levels2_worn v_levels2_last v_levels2_bend v_levels2_tall v_levels3_rows v_levels3_cols v_levels3_high v_levels3_wide v_levels3_folds v_levels3_wrong v_levels3_more v_levels3_rowOf v_levels3_colOf v_levels3_below v_levels3_face v_levels3_worn v_levels3_last v_levels3_bend v_levels3_tall v_path v_best) → va_S A s.heap H locs → lv_has ls 3 [(0, .ref (a 0)), (1, .ref (a 20)), (2, .int x2)] → W p l e (mm_rr d) s m args below meth c H locs 0 0 (mm_Z below D A (wd_X4 cI cL cS cH a w_found w_wrong w_more w_folds v_wanted v_levels0_rows v_levels0_cols v_levels0_high v_levels0_wide v_levels0_folds v_levels0_wrong v_levels0_more v_levels0_rowOf v_levels0_colOf v_levels0_below v_levels0_face v_levels0_worn v_levels0_last v_levels0_bend v_levels0_tall v_levels1_rows v_levels1_cols v_levels1_high v_levels1_wide v_levels1_folds v_levels1_wrong v_levels1_more v_levels1_rowOf v_levels1_colOf v_levels1_below v_levels1_face v_levels1_worn v_levels1_last v_levels1_bend v_levels1_tall v_levels2_rows v_levels2_cols v_levels2_high v_levels2_wide v_levels2_folds v_levels2_wrong v_levels2_more v_levels2_rowOf v_levels2_colOf v_levels2_below v_levels2_face v_levels2_worn v_levels2_last v_levels2_bend v_levels2_tall v_levels3_rows v_levels3_cols v_levels3_high v_levels3_wide v_levels3_folds v_levels3_wrong v_levels3_more v_levels3_rowOf v_levels3_colOf v_levels3_below v_levels3_face v_levels3_worn v_levels3_last v_levels3_bend v_levels3_tall v_path w_best) none args s) (F0 m 36 ls []) := by
  obtain ⟨hx, hb, hml, hown, hts, hr, hlocks, hK, hSt⟩ := id C0
  intro x2 v_found v_wrong v_more v_folds v_wanted v_levels2_rows v_levels2_cols v_levels2_wrong v_levels2_more v_levels2_rowOf v_levels2_colOf v_levels2_below v_path v_best H locs ls hf hP hD hS hl
  unfold fX4_weighv2_36 at hf
  refine lv_aload_n hx hb dX4_weigh_36 rfl (lv_at hl 0 rfl) ?_
  refine lv_iconst (v := 1) hx hb dX4_weigh_37 (by decide) ?_
  refine mm_put C0 hP hD hS iw_X4 tyX4 tyX4_ok nmX4 0 rfl rfl 0 (by decide) fl_X4_40 rfl (v := .int (mm_b true)) mm_bn mm_bf (Nat.le_of_ble_eq_true rfl) dX4_weigh_38 (w2 := (wd_X4 cI cL cS cH a true v_wrong v_more v_folds v_wanted v_levels0_rows v_levels0_cols v_levels0_high v_levels0_wide v_levels0_folds v_levels0_wrong v_levels0_more v_levels0_rowOf v_levels0_colOf v_levels0_below v_levels0_face v_levels0_worn v_levels0_last v_levels0_bend v_levels0_tall v_levels1_rows v_levels1_cols v_levels1_high v_levels1_wide v_levels1_folds v_levels1_wrong v_levels1_more v_levels1_rowOf v_levels1_colOf v_levels1_below v_levels1_face v_levels1_worn v_levels1_last v_levels1_bend v_levels1_tall v_levels2_rows v_levels2_cols v_levels2_high v_levels2_wide v_levels2_folds v_levels2_wrong v_levels2_more v_levels2_rowOf v_levels2_colOf v_levels2_below v_levels2_face v_levels2_worn v_levels2_last v_levels2_bend v_levels2_tall v_levels3_rows v_levels3_cols v_levels3_high v_levels3_wide v_levels3_folds v_levels3_wrong v_levels3_more v_levels3_rowOf v_levels3_colOf v_levels3_below v_levels3_face v_levels3_worn v_levels3_last v_levels3_bend v_levels3_tall v_path v_best)) rfl (fun H locs hP hD hS => ?_)
  refine lv_aload_n hx hb dX4_weigh_41 rfl (lv_at hl 0 rfl) ?_
  refine lv_aload_n hx hb dX4_weigh_42 rfl (lv_at hl 1 rfl) ?_
  refine mm_get C0 hP iw_X5 20 rfl rfl 5 (by decide) fl_X4_96 rfl dX4_weigh_43 ?_
  refine mm_put C0 hP hD hS iw_X4 tyX4 tyX4_ok nmX4 0 rfl rfl 1 (by decide) fl_X4_99 rfl rfl rfl (Nat.le_of_ble_eq_true rfl) dX4_weigh_46 (w2 := (wd_X4 cI cL cS cH a true v_levels2_wrong v_more v_folds v_wanted v_levels0_rows v_levels0_cols v_levels0_high v_levels0_wide v_levels0_folds v_levels0_wrong v_levels0_more v_levels0_rowOf v_levels0_colOf v_levels0_below v_levels0_face v_levels0_worn v_levels0_last v_levels0_bend v_levels0_tall v_levels1_rows v_levels1_cols v_levels1_high v_levels1_wide v_levels1_folds v_levels1_wrong v_levels1_more v_levels1_rowOf v_levels1_colOf v_levels1_below v_levels1_face v_levels1_worn v_levels1_last v_levels1_bend v_levels1_tall v_levels2_rows v_levels2_cols v_levels2_high v_levels2_wide v_levels2_folds v_levels2_wrong v_levels2_more v_levels2_rowOf v_levels2_colOf v_levels2_below v_levels2_face v_levels2_worn v_levels2_last v_levels2_bend v_levels2_tall v_levels3_rows v_levels3_cols v_levels3_high v_levels3_wide v_levels3_folds v_levels3_wrong v_levels3_more v_levels3_rowOf v_levels3_colOf v_levels3_below v_levels3_face v_levels3_worn v_levels3_last v_levels3_bend v_levels3_tall v_path v_best)) rfl (fun H locs hP hD hS => ?_)
  refine lv_aload_n hx hb dX4_weigh_49 rfl (lv_at hl 0 rfl) ?_
  refine lv_aload_n hx hb dX4_weigh_50 rfl (lv_at hl 1 rfl) ?_
  refine mm_get C0 hP iw_X5 20 rfl rfl 6 (by decide) fl_X4_100 rfl dX4_weigh_51 ?_
  refine mm_put C0 hP hD hS iw_X4 tyX4 tyX4_ok nmX4 0 rfl rfl 2 (by decide) fl_X4_103 rfl rfl rfl (Nat.le_of_ble_eq_true rfl) dX4_weigh_54 (w2 := (wd_X4 cI cL cS cH a true v_levels2_wrong v_levels2_more v_folds v_wanted v_levels0_rows v_levels0_cols v_levels0_high v_levels0_wide v_levels0_folds v_levels0_wrong v_levels0_more v_levels0_rowOf v_levels0_colOf v_levels0_below v_levels0_face v_levels0_worn v_levels0_last v_levels0_bend v_levels0_tall v_levels1_rows v_levels1_cols v_levels1_high v_levels1_wide v_levels1_folds v_levels1_wrong v_levels1_more v_levels1_rowOf v_levels1_colOf v_levels1_below v_levels1_face v_levels1_worn v_levels1_last v_levels1_bend v_levels1_tall v_levels2_rows v_levels2_cols v_levels2_high v_levels2_wide v_levels2_folds v_levels2_wrong v_levels2_more v_levels2_rowOf v_levels2_colOf v_levels2_below v_levels2_face v_levels2_worn v_levels2_last v_levels2_bend v_levels2_tall v_levels3_rows v_levels3_cols v_levels3_high v_levels3_wide v_levels3_folds v_levels3_wrong v_levels3_more v_levels3_rowOf v_levels3_colOf v_levels3_below v_levels3_face v_levels3_worn v_levels3_last v_levels3_bend v_levels3_tall v_path v_best)) rfl (fun H locs hP hD hS => ?_)
  refine lv_aload_n hx hb dX4_weigh_57 rfl (lv_at hl 0 rfl) ?_
  refine lv_iload_n hx hb dX4_weigh_58 rfl (lv_at hl 2 rfl) ?_
  refine mm_put C0 hP hD hS iw_X4 tyX4 tyX4_ok nmX4 0 rfl rfl 3 (by decide) fl_X4_33 rfl rfl rfl (Nat.le_of_ble_eq_true rfl) dX4_weigh_59 (w2 := (wd_X4 cI cL cS cH a true v_levels2_wrong v_levels2_more x2 v_wanted v_levels0_rows v_levels0_cols v_levels0_high v_levels0_wide v_levels0_folds v_levels0_wrong v_levels0_more v_levels0_rowOf v_levels0_colOf v_levels0_below v_levels0_face v_levels0_worn v_levels0_last v_levels0_bend v_levels0_tall v_levels1_rows v_levels1_cols v_levels1_high v_levels1_wide v_levels1_folds v_levels1_wrong v_levels1_more v_levels1_rowOf v_levels1_colOf v_levels1_below v_levels1_face v_levels1_worn v_levels1_last v_levels1_bend v_levels1_tall v_levels2_rows v_levels2_cols v_levels2_high v_levels2_wide v_levels2_folds v_levels2_wrong v_levels2_more v_levels2_rowOf v_levels2_colOf v_levels2_below v_levels2_face v_levels2_worn v_levels2_last v_levels2_bend v_levels2_tall v_levels3_rows v_levels3_cols v_levels3_high v_levels3_wide v_levels3_folds v_levels3_wrong v_levels3_more v_levels3_rowOf v_levels3_colOf v_levels3_below v_levels3_face v_levels3_worn v_levels3_last v_levels3_bend v_levels3_tall v_path v_best)) rfl (fun H locs hP hD hS => ?_)
  refine lv_aload_n hx hb dX4_weigh_62 rfl (lv_at hl 0 rfl) ?_
  refine mm_get C0 hP iw_X4 0 rfl rfl 5 (by decide) fl_X4_17 rfl dX4_weigh_63 ?_
  refine lv_iconst (v := 0) hx hb dX4_weigh_66 (by decide) ?_
  refine lv_aload_n hx hb dX4_weigh_67 rfl (lv_at hl 0 rfl) ?_
  refine mm_get C0 hP iw_X4 0 rfl rfl 6 (by decide) fl_X4_21 rfl dX4_weigh_68 ?_
  refine lv_iconst (v := 0) hx hb dX4_weigh_71 (by decide) ?_
  refine lv_iload_n hx hb dX4_weigh_72 rfl (lv_at hl 2 rfl) ?_
  obtain ⟨h_9, hf⟩ := mm_cks hf
  refine mm_copyi C0 la_X4_104 hP hD hS 38 39 rfl rfl h_9 hl.1 (by omega) (mm_cat rfl) dX4_weigh_73 (w2 := (wd_X4 cI cL cS cH a true v_levels2_wrong v_levels2_more x2 v_wanted v_levels0_rows v_levels0_cols v_levels0_high v_levels0_wide v_levels0_folds v_levels0_wrong v_levels0_more v_levels0_rowOf v_levels0_colOf v_levels0_below v_levels0_face v_levels0_worn v_levels0_last v_levels0_bend v_levels0_tall v_levels1_rows v_levels1_cols v_levels1_high v_levels1_wide v_levels1_folds v_levels1_wrong v_levels1_more v_levels1_rowOf v_levels1_colOf v_levels1_below v_levels1_face v_levels1_worn v_levels1_last v_levels1_bend v_levels1_tall v_levels2_rows v_levels2_cols v_levels2_high v_levels2_wide v_levels2_folds v_levels2_wrong v_levels2_more v_levels2_rowOf v_levels2_colOf v_levels2_below v_levels2_face v_levels2_worn v_levels2_last v_levels2_bend v_levels2_tall v_levels3_rows v_levels3_cols v_levels3_high v_levels3_wide v_levels3_folds v_levels3_wrong v_levels3_more v_levels3_rowOf v_levels3_colOf v_levels3_below v_levels3_face v_levels3_worn v_levels3_last v_levels3_bend v_levels3_tall v_path (mm_cp v_path v_best (0 : Int32) (0 : Int32) x2))) rfl (fun H locs hP hD hS => ?_)
  generalize el_10 : (mm_cp v_path v_best (0 : Int32) (0 : Int32) x2) = l_10 at hP hD
  have hf := mm_nms hf el_10.symm
  apply mm_sub5 hf
  exact mm_vret C0 hP hD hS dX4_weigh_76

def fX4_weighv2_19 (N : Nat)  (x2 : Int32) (v_found : Bool) (v_wrong : Int32) (v_more : Int32) (v_folds : Int32) (v_wanted : Int32) (v_levels2_rows : Int32) (v_levels2_cols : Int32) (v_levels2_wrong : Int32) (v_levels2_more : Int32) (v_levels2_rowOf : List Int32) (v_levels2_colOf : List Int32) (v_levels2_below : List Int32) (v_path : List Int32) (v_best : List Int32) : Option (Bool × Int32 × Int32 × Int32 × List Int32) :=
    if v_found = false then
    (fX4_weighv2_36 N x2 v_found v_wrong v_more v_folds v_wanted v_levels2_rows v_levels2_cols v_levels2_wrong v_levels2_more v_levels2_rowOf v_levels2_colOf v_levels2_below v_path v_best)
    else (mm_bd1 (fX4_isLessv2 N x2 v_wrong v_more v_folds v_levels2_wrong v_levels2_more) (fun (r_6 : Bool) =>
    if r_6 = false then
    (some (v_found, v_wrong, v_more, v_folds, v_best))
    else (fX4_weighv2_36 N x2 v_found v_wrong v_more v_folds v_wanted v_levels2_rows v_levels2_cols v_levels2_wrong v_levels2_more v_levels2_rowOf v_levels2_colOf v_levels2_below v_path v_best)))

set_option maxHeartbeats 4000000 in
set_option maxRecDepth 100000 in
theorem tX4_weighv2_19 {p : Program} {l : Launch} {e : Env} {s : State} {m : MethodId} {args : Array Value} {below : List Frame} {meth : Method} {c : Code} {D : va_G} {cI cL cS cH : ClassId} {A : Nat → Prop} {d : Nat} {a : Nat → Nat} (hd : 5 ≤ d) (C0 : mm_Cx p s m args meth c RX4 cX4_weigh 3 none D (mm_T cI cL cS cH) A) (hA : ∀ q, s.heap.size ≤ q → A q) {v_levels0_rows : Int32} {v_levels0_cols : Int32} {v_levels0_high : Int32} {v_levels0_wide : Int32} {v_levels0_folds : Int32} {v_levels0_wrong : Int32} {v_levels0_more : Int32} {v_levels0_rowOf : List Int32} {v_levels0_colOf : List Int32} {v_levels0_below : List Int32} {v_levels0_face : List Int32} {v_levels0_worn : List Int32} {v_levels0_last : List Int32} {v_levels0_bend : List Int32} {v_levels0_tall : List Int32} {v_levels1_rows : Int32} {v_levels1_cols : Int32} {v_levels1_high : Int32} {v_levels1_wide : Int32} {v_levels1_folds : Int32} {v_levels1_wrong : Int32} {v_levels1_more : Int32} {v_levels1_rowOf : List Int32} {v_levels1_colOf : List Int32} {v_levels1_below : List Int32} {v_levels1_face : List Int32} {v_levels1_worn : List Int32} {v_levels1_last : List Int32} {v_levels1_bend : List Int32} {v_levels1_tall : List Int32} {v_levels2_high : Int32} {v_levels2_wide : Int32} {v_levels2_folds : Int32} {v_levels2_face : List Int32} {v_levels2_worn : List Int32} {v_levels2_last : List Int32} {v_levels2_bend : List Int32} {v_levels2_tall : List Int32} {v_levels3_rows : Int32} {v_levels3_cols : Int32} {v_levels3_high : Int32} {v_levels3_wide : Int32} {v_levels3_folds : Int32} {v_levels3_wrong : Int32} {v_levels3_more : Int32} {v_levels3_rowOf : List Int32} {v_levels3_colOf : List Int32} {v_levels3_below : List Int32} {v_levels3_face : List Int32} {v_levels3_worn : List Int32} {v_levels3_last : List Int32} {v_levels3_bend : List Int32} {v_levels3_tall : List Int32} {w_found : Bool} {w_wrong : Int32} {w_more : Int32} {w_folds : Int32} {w_best : List Int32} (N : Nat)  : ∀ (x2 : Int32) (v_found : Bool) (v_wrong : Int32) (v_more : Int32) (v_folds : Int32) (v_wanted : Int32) (v_levels2_rows : Int32) (v_levels2_cols : Int32) (v_levels2_wrong : Int32) (v_levels2_more : Int32) (v_levels2_rowOf : List Int32) (v_levels2_colOf : List Int32) (v_levels2_below : List Int32) (v_path : List Int32) (v_best : List Int32) (H : Heap) (locs : List Loc) (ls : Array Slot), fX4_weighv2_19 N x2 v_found v_wrong v_more v_folds v_wanted v_levels2_rows v_levels2_cols v_levels2_wrong v_levels2_more v_levels2_rowOf v_levels2_colOf v_levels2_below v_path v_best = some (w_found, w_wrong, w_more, w_folds, w_best) → va_P D mm_cl (wd_X4 cI cL cS cH a v_found v_wrong v_more v_folds v_wanted v_levels0_rows v_levels0_cols v_levels0_high v_levels0_wide v_levels0_folds v_levels0_wrong v_levels0_more v_levels0_rowOf v_levels0_colOf v_levels0_below v_levels0_face v_levels0_worn v_levels0_last v_levels0_bend v_levels0_tall v_levels1_rows v_levels1_cols v_levels1_high v_levels1_wide v_levels1_folds v_levels1_wrong v_levels1_more v_levels1_rowOf v_levels1_colOf v_levels1_below v_levels1_face v_levels1_worn v_levels1_last v_levels1_bend v_levels1_tall v_levels2_rows v_levels2_cols v_levels2_high v_levels2_wide v_levels2_folds v_levels2_wrong v_levels2_more v_levels2_rowOf v_levels2_colOf v_levels2_below v_levels2_face v_levels2_worn v_levels2_last v_levels2_bend v_levels2_tall v_levels3_rows v_levels3_cols v_levels3_high v_levels3_wide v_levels3_folds v_levels3_wrong v_levels3_more v_levels3_rowOf v_levels3_colOf v_levels3_below v_levels3_face v_levels3_worn v_levels3_last v_levels3_bend v_levels3_tall v_path v_best) H → va_D A (wd_X4 cI cL cS cH a v_found v_wrong v_more v_folds v_wanted v_levels0_rows v_levels0_cols v_levels0_high v_levels0_wide v_levels0_folds v_levels0_wrong v_levels0_more v_levels0_rowOf v_levels0_colOf v_levels0_below v_levels0_face v_levels0_worn v_levels0_last v_levels0_bend v_levels0_tall v_levels1_rows v_levels1_cols v_levels1_high v_levels1_wide v_levels1_folds v_levels1_wrong v_levels1_more v_levels1_rowOf v_levels1_colOf v_levels1_below v_levels1_face v_levels1_worn v_levels1_last v_levels1_bend v_levels1_tall v_levels2_rows v_levels2_cols v_levels2_high v_levels2_wide v_levels2_folds v_levels2_wrong v_levels2_more v_levels2_rowOf v_levels2_colOf v_levels2_below v_levels2_face v_levels2_worn v_levels2_last v_levels2_bend v_levels2_tall v_levels3_rows v_levels3_cols v_levels3_high v_levels3_wide v_levels3_folds v_levels3_wrong v_levels3_more v_levels3_rowOf v_levels3_colOf v_levels3_below v_levels3_face v_levels3_worn v_levels3_last v_levels3_bend v_levels3_tall v_path v_best) → va_S A s.heap H locs → lv_has ls 3 [(0, .ref (a 0)), (1, .ref (a 20)), (2, .int x2)] → W p l e (mm_rr d) s m args below meth c H locs 0 0 (mm_Z below D A (wd_X4 cI cL cS cH a w_found w_wrong w_more w_folds v_wanted v_levels0_rows v_levels0_cols v_levels0_high v_levels0_wide v_levels0_folds v_levels0_wrong v_levels0_more v_levels0_rowOf v_levels0_colOf v_levels0_below v_levels0_face v_levels0_worn v_levels0_last v_levels0_bend v_levels0_tall v_levels1_rows v_levels1_cols v_levels1_high v_levels1_wide v_levels1_folds v_levels1_wrong v_levels1_more v_levels1_rowOf v_levels1_colOf v_levels1_below v_levels1_face v_levels1_worn v_levels1_last v_levels1_bend v_levels1_tall v_levels2_rows v_levels2_cols v_levels2_high v_levels2_wide v_levels2_folds v_levels2_wrong v_levels2_more v_levels2_rowOf v_levels2_colOf v_levels2_below v_levels2_face v_levels2_worn v_levels2_last v_levels2_bend v_levels2_tall v_levels3_rows v_levels3_cols v_levels3_high v_levels3_wide v_levels3_folds v_levels3_wrong v_levels3_more v_levels3_rowOf v_levels3_colOf v_levels3_below v_levels3_face v_levels3_worn v_levels3_last v_levels3_bend v_levels3_tall v_path w_best) none args s) (F0 m 19 ls []) := by
  obtain ⟨hx, hb, hml, hown, hts, hr, hlocks, hK, hSt⟩ := id C0
  intro x2 v_found v_wrong v_more v_folds v_wanted v_levels2_rows v_levels2_cols v_levels2_wrong v_levels2_more v_levels2_rowOf v_levels2_colOf v_levels2_below v_path v_best H locs ls hf hP hD hS hl
  unfold fX4_weighv2_19 at hf
  refine lv_aload_n hx hb dX4_weigh_19 rfl (lv_at hl 0 rfl) ?_
  refine mm_get C0 hP iw_X4 0 rfl rfl 0 (by decide) fl_X4_40 rfl dX4_weigh_20 ?_
  refine lv_if_eq (tgt := 36) hx hb dX4_weigh_23 (by decide) (fun c_5 => ?_) (fun c_5 => ?_)
  · have hf := mm_ip hf (mm_b0 c_5)
    exact tX4_weighv2_36 hd C0 hA N  _ _ _ _ _ _ _ _ _ _ _ _ _ _ _ H locs ls hf hP hD hS (lv_sub hl [0, 1, 2] rfl)
  · have hf := mm_in hf (mm_b1 c_5)
    refine lv_aload_n hx hb dX4_weigh_26 rfl (lv_at hl 0 rfl) ?_
    refine lv_aload_n hx hb dX4_weigh_27 rfl (lv_at hl 1 rfl) ?_
    refine lv_iload_n hx hb dX4_weigh_28 rfl (lv_at hl 2 rfl) ?_
    obtain ⟨r_6, hc_7, hf⟩ := mm_bd1s hf
    refine mm_callVF (q0 := 0) (ci := 4) (rest := []) C0 lk_X4_92 (ctX4_isLessv2 (a := a) (d := d - 1) (by omega) hc_7) (by omega) rfl hl.1 rfl (mm_cat rfl) dX4_weigh_29 hP hD hA hS rfl rfl (fun H locs hP hD hS => ?_)
    refine W.eq (g2 := F0 m 32 ls [.int (mm_b r_6)]) rfl ?_
    refine lv_if_ne (tgt := 36) hx hb dX4_weigh_32 (by decide) (fun c_8 => ?_) (fun c_8 => ?_)
    · have hf := mm_in hf (mm_b1 c_8)
      exact tX4_weighv2_36 hd C0 hA N  _ _ _ _ _ _ _ _ _ _ _ _ _ _ _ H locs ls hf hP hD hS (lv_sub hl [0, 1, 2] rfl)
    · have hf := mm_ip hf (mm_b0 c_8)
      apply mm_sub5 hf
      exact mm_vret C0 hP hD hS dX4_weigh_35

def fX4_weighv2 (N : Nat) (x2 : Int32) (v_found : Bool) (v_wrong : Int32) (v_more : Int32) (v_folds : Int32) (v_wanted : Int32) (v_levels2_rows : Int32) (v_levels2_cols : Int32) (v_levels2_wrong : Int32) (v_levels2_more : Int32) (v_levels2_rowOf : List Int32) (v_levels2_colOf : List Int32) (v_levels2_below : List Int32) (v_path : List Int32) (v_best : List Int32) : Option (Bool × Int32 × Int32 × Int32 × List Int32) :=
    if v_wanted < 0 then
    (fX4_weighv2_19 N x2 v_found v_wrong v_more v_folds v_wanted v_levels2_rows v_levels2_cols v_levels2_wrong v_levels2_more v_levels2_rowOf v_levels2_colOf v_levels2_below v_path v_best)
    else (mm_bd1 (fX5_isTop N v_wanted v_levels2_rows v_levels2_cols v_levels2_rowOf v_levels2_colOf v_levels2_below) (fun (r_2 : Bool) =>
    if r_2 = false then
    (some (v_found, v_wrong, v_more, v_folds, v_best))
    else (fX4_weighv2_19 N x2 v_found v_wrong v_more v_folds v_wanted v_levels2_rows v_levels2_cols v_levels2_wrong v_levels2_more v_levels2_rowOf v_levels2_colOf v_levels2_below v_path v_best)))

set_option maxHeartbeats 4000000 in
set_option maxRecDepth 100000 in
theorem ctX4_weighv2 {l : Launch} {D : va_G} {cI cL cS cH : ClassId} {a : Nat → Nat} {x2 : Int32} {v_found : Bool} {v_wrong : Int32} {v_more : Int32} {v_folds : Int32} {v_wanted : Int32} {v_levels0_rows : Int32} {v_levels0_cols : Int32} {v_levels0_high : Int32} {v_levels0_wide : Int32} {v_levels0_folds : Int32} {v_levels0_wrong : Int32} {v_levels0_more : Int32} {v_levels0_rowOf : List Int32} {v_levels0_colOf : List Int32} {v_levels0_below : List Int32} {v_levels0_face : List Int32} {v_levels0_worn : List Int32} {v_levels0_last : List Int32} {v_levels0_bend : List Int32} {v_levels0_tall : List Int32} {v_levels1_rows : Int32} {v_levels1_cols : Int32} {v_levels1_high : Int32} {v_levels1_wide : Int32} {v_levels1_folds : Int32} {v_levels1_wrong : Int32} {v_levels1_more : Int32} {v_levels1_rowOf : List Int32} {v_levels1_colOf : List Int32} {v_levels1_below : List Int32} {v_levels1_face : List Int32} {v_levels1_worn : List Int32} {v_levels1_last : List Int32} {v_levels1_bend : List Int32} {v_levels1_tall : List Int32} {v_levels2_rows : Int32} {v_levels2_cols : Int32} {v_levels2_high : Int32} {v_levels2_wide : Int32} {v_levels2_folds : Int32} {v_levels2_wrong : Int32} {v_levels2_more : Int32} {v_levels2_rowOf : List Int32} {v_levels2_colOf : List Int32} {v_levels2_below : List Int32} {v_levels2_face : List Int32} {v_levels2_worn : List Int32} {v_levels2_last : List Int32} {v_levels2_bend : List Int32} {v_levels2_tall : List Int32} {v_levels3_rows : Int32} {v_levels3_cols : Int32} {v_levels3_high : Int32} {v_levels3_wide : Int32} {v_levels3_folds : Int32} {v_levels3_wrong : Int32} {v_levels3_more : Int32} {v_levels3_rowOf : List Int32} {v_levels3_colOf : List Int32} {v_levels3_below : List Int32} {v_levels3_face : List Int32} {v_levels3_worn : List Int32} {v_levels3_last : List Int32} {v_levels3_bend : List Int32} {v_levels3_tall : List Int32} {v_path : List Int32} {v_best : List Int32} {w_found : Bool} {w_wrong : Int32} {w_more : Int32} {w_folds : Int32} {w_best : List Int32} {N d : Nat} (hd : 5 ≤ d) (hf : fX4_weighv2 N x2 v_found v_wrong v_more v_folds v_wanted v_levels2_rows v_levels2_cols v_levels2_wrong v_levels2_more v_levels2_rowOf v_levels2_colOf v_levels2_below v_path v_best = some (w_found, w_wrong, w_more, w_folds, w_best)) : mm_Ct l yX4_weigh cX4_weigh 3 none d D (mm_T cI cL cS cH) [.ref (a 0), .ref (a 20), .int x2] (wd_X4 cI cL cS cH a v_found v_wrong v_more v_folds v_wanted v_levels0_rows v_levels0_cols v_levels0_high v_levels0_wide v_levels0_folds v_levels0_wrong v_levels0_more v_levels0_rowOf v_levels0_colOf v_levels0_below v_levels0_face v_levels0_worn v_levels0_last v_levels0_bend v_levels0_tall v_levels1_rows v_levels1_cols v_levels1_high v_levels1_wide v_levels1_folds v_levels1_wrong v_levels1_more v_levels1_rowOf v_levels1_colOf v_levels1_below v_levels1_face v_levels1_worn v_levels1_last v_levels1_bend v_levels1_tall v_levels2_rows v_levels2_cols v_levels2_high v_levels2_wide v_levels2_folds v_levels2_wrong v_levels2_more v_levels2_rowOf v_levels2_colOf v_levels2_below v_levels2_face v_levels2_worn v_levels2_last v_levels2_bend v_levels2_tall v_levels3_rows v_levels3_cols v_levels3_high v_levels3_wide v_levels3_folds v_levels3_wrong v_levels3_more v_levels3_rowOf v_levels3_colOf v_levels3_below v_levels3_face v_levels3_worn v_levels3_last v_levels3_bend v_levels3_tall v_path v_best) (wd_X4 cI cL cS cH a w_found w_wrong w_more w_folds v_wanted v_levels0_rows v_levels0_cols v_levels0_high v_levels0_wide v_levels0_folds v_levels0_wrong v_levels0_more v_levels0_rowOf v_levels0_colOf v_levels0_below v_levels0_face v_levels0_worn v_levels0_last v_levels0_bend v_levels0_tall v_levels1_rows v_levels1_cols v_levels1_high v_levels1_wide v_levels1_folds v_levels1_wrong v_levels1_more v_levels1_rowOf v_levels1_colOf v_levels1_below v_levels1_face v_levels1_worn v_levels1_last v_levels1_bend v_levels1_tall v_levels2_rows v_levels2_cols v_levels2_high v_levels2_wide v_levels2_folds v_levels2_wrong v_levels2_more v_levels2_rowOf v_levels2_colOf v_levels2_below v_levels2_face v_levels2_worn v_levels2_last v_levels2_bend v_levels2_tall v_levels3_rows v_levels3_cols v_levels3_high v_levels3_wide v_levels3_folds v_levels3_wrong v_levels3_more v_levels3_rowOf v_levels3_colOf v_levels3_below v_levels3_face v_levels3_worn v_levels3_last v_levels3_bend v_levels3_tall v_path w_best) none := by
  refine mm_of (by decide) (Nat.le_of_ble_eq_true rfl) ?_
  intro p e s m args below meth c A H locs ls C0 hP hD hA hS hl
  have C0 : mm_Cx p s m args meth c RX4 cX4_weigh 3 none D (mm_T cI cL cS cH) A := C0
  obtain ⟨hx, hb, hml, hown, hts, hr, hlocks, hK, hSt⟩ := id C0
  have hl : lv_has ls 3 [(0, .ref (a 0)), (1, .ref (a 20)), (2, .int x2)] := hl
  unfold fX4_weighv2 at hf
  refine lv_aload_n hx hb dX4_weigh_0 rfl (lv_at hl 0 rfl) ?_
  refine mm_get C0 hP iw_X4 0 rfl rfl 7 (by decide) fl_X4_37 rfl dX4_weigh_1 ?_
  refine lv_if_lt (tgt := 19) hx hb dX4_weigh_4 (by decide) (fun c_1 => ?_) (fun c_1 => ?_)
  · have hf := mm_ip hf c_1
    exact tX4_weighv2_19 hd C0 hA N  _ _ _ _ _ _ _ _ _ _ _ _ _ _ _ H locs ls hf hP hD hS (lv_sub hl [0, 1, 2] rfl)
  · have hf := mm_in hf c_1
    refine lv_aload_n hx hb dX4_weigh_7 rfl (lv_at hl 1 rfl) ?_
    refine lv_aload_n hx hb dX4_weigh_8 rfl (lv_at hl 0 rfl) ?_
    refine mm_get C0 hP iw_X4 0 rfl rfl 7 (by decide) fl_X4_37 rfl dX4_weigh_9 ?_
    obtain ⟨r_2, hc_3, hf⟩ := mm_bd1s hf
    refine mm_callW (q0 := 20) (ci := 5) (w2 := (wd_X4 cI cL cS cH a v_found v_wrong v_more v_folds v_wanted v_levels0_rows v_levels0_cols v_levels0_high v_levels0_wide v_levels0_folds v_levels0_wrong v_levels0_more v_levels0_rowOf v_levels0_colOf v_levels0_below v_levels0_face v_levels0_worn v_levels0_last v_levels0_bend v_levels0_tall v_levels1_rows v_levels1_cols v_levels1_high v_levels1_wide v_levels1_folds v_levels1_wrong v_levels1_more v_levels1_rowOf v_levels1_colOf v_levels1_below v_levels1_face v_levels1_worn v_levels1_last v_levels1_bend v_levels1_tall v_levels2_rows v_levels2_cols v_levels2_high v_levels2_wide v_levels2_folds v_levels2_wrong v_levels2_more v_levels2_rowOf v_levels2_colOf v_levels2_below v_levels2_face v_levels2_worn v_levels2_last v_levels2_bend v_levels2_tall v_levels3_rows v_levels3_cols v_levels3_high v_levels3_wide v_levels3_folds v_levels3_wrong v_levels3_more v_levels3_rowOf v_levels3_colOf v_levels3_below v_levels3_face v_levels3_worn v_levels3_last v_levels3_bend v_levels3_tall v_path v_best)) (rest := []) C0 lk_X4_88 (ctX5_isTop (a := (fun k => a (k + 20))) (d := d - 1) (by omega) hc_3) (by omega) rfl hl.1 rfl (mm_cat rfl) dX4_weigh_12 hP hD hA hS rfl rfl [false, false, false, false, false, false, false, false, false, false, false, false, false, false, false, false, false, false, false, false, true, true, true, true, true, true, true, true, true, false, false, false, false, false, false, false, false, false, false, false] rfl rfl rfl rfl (fun H locs hP hD hS => ?_)
    refine W.eq (g2 := F0 m 15 ls [.int (mm_b r_2)]) rfl ?_
    refine lv_if_ne (tgt := 19) hx hb dX4_weigh_15 (by decide) (fun c_4 => ?_) (fun c_4 => ?_)
    · have hf := mm_in hf (mm_b1 c_4)
      exact tX4_weighv2_19 hd C0 hA N  _ _ _ _ _ _ _ _ _ _ _ _ _ _ _ H locs ls hf hP hD hS (lv_sub hl [0, 1, 2] rfl)
    · have hf := mm_ip hf (mm_b0 c_4)
      apply mm_sub5 hf
      exact mm_vret C0 hP hD hS dX4_weigh_18

