/-! Constructors -/
def z5_rowOf : List Int32 := [0, 0, 0, 0, 1, 1, 1, 1] ++ mm_zs 24
def z5_colOf : List Int32 := [0, 1, 2, 3, 0, 1, 2, 3] ++ mm_zs 24
def z9_row : List Int32 := [0, 0, 0, 0, 1, 1, 1, 1] ++ mm_zs 184
def z9_column : List Int32 := [0, 1, 2, 3, 0, 1, 2, 3] ++ mm_zs 184
def z9_shapeRows : List Int32 := [2, 0, 0, 0, 0, 0]
def z9_shapeColumns : List Int32 := [4, 0, 0, 0, 0, 0]
def z9_limit : List Int32 := [20]
def z9_shelf : List Int32 := [-1, -1, -1, -1, -1, -1]
theorem kn_X8 : Cond.instantiable RX8 10 ∈ mm_tbl := mm_tin (lw_c1 (List.mem_of_getElem? (i := 15) (by decide +kernel))) rfl
theorem ki_X8 : Cond.initialized RX8 ∈ mm_tbl := mm_tin (lw_c1 (List.mem_of_getElem? (i := 1) (by decide +kernel))) rfl
theorem kn_X5 : Cond.instantiable RX5 15 ∈ mm_tbl := mm_tin (lw_c1 (List.mem_of_getElem? (i := 23) (by decide +kernel))) rfl
theorem ki_X5 : Cond.initialized RX5 ∈ mm_tbl := mm_tin (lw_c1 (List.mem_of_getElem? (i := 2) (by decide +kernel))) rfl
theorem kn_X2 : Cond.instantiable RX2 10 ∈ mm_tbl := mm_tin (lw_c1 (List.mem_of_getElem? (i := 104) (by decide +kernel))) rfl
theorem ki_X2 : Cond.initialized RX2 ∈ mm_tbl := mm_tin (lw_c1 (List.mem_of_getElem? (i := 4) (by decide +kernel))) rfl
theorem kn_X3 : Cond.instantiable RX3 4 ∈ mm_tbl := mm_tin (lw_c1 (List.mem_of_getElem? (i := 142) (by decide +kernel))) rfl
theorem ki_X3 : Cond.initialized RX3 ∈ mm_tbl := mm_tin (lw_c1 (List.mem_of_getElem? (i := 5) (by decide +kernel))) rfl
theorem kn_X4 : Cond.instantiable RX4 8 ∈ mm_tbl := mm_tin (lw_c1 (List.mem_of_getElem? (i := 165) (by decide +kernel))) rfl
theorem ki_X4 : Cond.initialized RX4 ∈ mm_tbl := mm_tin (lw_c1 (List.mem_of_getElem? (i := 6) (by decide +kernel))) rfl
theorem kn_X7 : Cond.instantiable RX7 3 ∈ mm_tbl := mm_tin (lw_c1 (List.mem_of_getElem? (i := 203) (by decide +kernel))) rfl
theorem ki_X7 : Cond.initialized RX7 ∈ mm_tbl := mm_tin (lw_c1 (List.mem_of_getElem? (i := 7) (by decide +kernel))) rfl
theorem kn_X0 : Cond.instantiable RX0 5 ∈ mm_tbl := mm_tin (lw_c1 (List.mem_of_getElem? (i := 219) (by decide +kernel))) rfl
theorem ki_X0 : Cond.initialized RX0 ∈ mm_tbl := mm_tin (lw_c1 (List.mem_of_getElem? (i := 8) (by decide +kernel))) rfl
theorem kn_X1 : Cond.instantiable RX1 5 ∈ mm_tbl := mm_tin (lw_c2 (List.mem_of_getElem? (i := 4) (by decide +kernel))) rfl
theorem ki_X1 : Cond.initialized RX1 ∈ mm_tbl := mm_tin (lw_c1 (List.mem_of_getElem? (i := 9) (by decide +kernel))) rfl
theorem kn_X6 : Cond.instantiable RX6 5 ∈ mm_tbl := mm_tin (lw_c2 (List.mem_of_getElem? (i := 30) (by decide +kernel))) rfl
theorem ki_X6 : Cond.initialized RX6 ∈ mm_tbl := mm_tin (lw_c1 (List.mem_of_getElem? (i := 10) (by decide +kernel))) rfl
theorem kn_X9 : Cond.instantiable RX9 69 ∈ mm_tbl := mm_tin (lw_c4 (List.mem_of_getElem? (i := 228) (by decide +kernel))) rfl
theorem ki_X9 : Cond.initialized RX9 ∈ mm_tbl := mm_tin (lw_c1 (List.mem_of_getElem? (i := 11) (by decide +kernel))) rfl
theorem mm_chk12 {α0 α1 α2 α3 α4 α5 α6 α7 α8 α9 α10 α11 : Type} [DecidableEq α0] [DecidableEq α1] [DecidableEq α2] [DecidableEq α3] [DecidableEq α4] [DecidableEq α5] [DecidableEq α6] [DecidableEq α7] [DecidableEq α8] [DecidableEq α9] [DecidableEq α10] [DecidableEq α11] {x : Option (α0 × α1 × α2 × α3 × α4 × α5 × α6 × α7 × α8 × α9 × α10 × α11)} {v0 : α0} {v1 : α1} {v2 : α2} {v3 : α3} {v4 : α4} {v5 : α5} {v6 : α6} {v7 : α7} {v8 : α8} {v9 : α9} {v10 : α10} {v11 : α11} (h : (match x with | some (a0, a1, a2, a3, a4, a5, a6, a7, a8, a9, a10, a11) => decide (a0 = v0) && (decide (a1 = v1) && (decide (a2 = v2) && (decide (a3 = v3) && (decide (a4 = v4) && (decide (a5 = v5) && (decide (a6 = v6) && (decide (a7 = v7) && (decide (a8 = v8) && (decide (a9 = v9) && (decide (a10 = v10) && (decide (a11 = v11)))))))))))) | none => false) = true) : x = some (v0, v1, v2, v3, v4, v5, v6, v7, v8, v9, v10, v11) := by
  cases x with
  | none => cases h
  | some q =>
    obtain ⟨a0, a1, a2, a3, a4, a5, a6, a7, a8, a9, a10, a11⟩ := q
    simp only [Bool.and_eq_true, decide_eq_true_eq] at h
    obtain ⟨rfl, rfl, rfl, rfl, rfl, rfl, rfl, rfl, rfl, rfl, rfl, rfl⟩ := h
    rfl
theorem mm_chk13 {α0 α1 α2 α3 α4 α5 α6 α7 α8 α9 α10 α11 α12 : Type} [DecidableEq α0] [DecidableEq α1] [DecidableEq α2] [DecidableEq α3] [DecidableEq α4] [DecidableEq α5] [DecidableEq α6] [DecidableEq α7] [DecidableEq α8] [DecidableEq α9] [DecidableEq α10] [DecidableEq α11] [DecidableEq α12] {x : Option (α0 × α1 × α2 × α3 × α4 × α5 × α6 × α7 × α8 × α9 × α10 × α11 × α12)} {v0 : α0} {v1 : α1} {v2 : α2} {v3 : α3} {v4 : α4} {v5 : α5} {v6 : α6} {v7 : α7} {v8 : α8} {v9 : α9} {v10 : α10} {v11 : α11} {v12 : α12} (h : (match x with | some (a0, a1, a2, a3, a4, a5, a6, a7, a8, a9, a10, a11, a12) => decide (a0 = v0) && (decide (a1 = v1) && (decide (a2 = v2) && (decide (a3 = v3) && (decide (a4 = v4) && (decide (a5 = v5) && (decide (a6 = v6) && (decide (a7 = v7) && (decide (a8 = v8) && (decide (a9 = v9) && (decide (a10 = v10) && (decide (a11 = v11) && (decide (a12 = v12))))))))))))) | none => false) = true) : x = some (v0, v1, v2, v3, v4, v5, v6, v7, v8, v9, v10, v11, v12) := by
  cases x with
  | none => cases h
  | some q =>
    obtain ⟨a0, a1, a2, a3, a4, a5, a6, a7, a8, a9, a10, a11, a12⟩ := q
    simp only [Bool.and_eq_true, decide_eq_true_eq] at h
    obtain ⟨rfl, rfl, rfl, rfl, rfl, rfl, rfl, rfl, rfl, rfl, rfl, rfl, rfl⟩ := h
    rfl
theorem lk_X5_36 : mm_LV RX5 36 yX5_renew cX5_renew 3 none 2 := ⟨⟨mm_tin (lw_c1 (List.mem_of_getElem? (i := 28) (by decide +kernel))) rfl, mm_tin (lw_c1 (List.mem_of_getElem? (i := 29) (by decide +kernel))) rfl, mm_tin (lw_c1 (List.mem_of_getElem? (i := 30) (by decide +kernel))) rfl, mm_tin (lw_c1 (List.mem_of_getElem? (i := 2) (by decide +kernel))) rfl, mm_tin (lw_c1 (List.mem_of_getElem? (i := 31) (by decide +kernel))) rfl⟩, by decide +kernel, by decide⟩
theorem li_X8_9 : mm_LI RX8 9 yX5_init cX5_init 1 := ⟨⟨mm_tin (lw_c1 (List.mem_of_getElem? (i := 24) (by decide +kernel))) rfl, mm_tin (lw_c1 (List.mem_of_getElem? (i := 25) (by decide +kernel))) rfl, mm_tin (lw_c1 (List.mem_of_getElem? (i := 2) (by decide +kernel))) rfl, mm_tin (lw_c1 (List.mem_of_getElem? (i := 26) (by decide +kernel))) rfl⟩, by decide +kernel, by decide, rfl⟩
theorem li_X8_35 : mm_LI RX8 35 yX4_init cX4_init 2 := ⟨⟨mm_tin (lw_c1 (List.mem_of_getElem? (i := 166) (by decide +kernel))) rfl, mm_tin (lw_c1 (List.mem_of_getElem? (i := 167) (by decide +kernel))) rfl, mm_tin (lw_c1 (List.mem_of_getElem? (i := 6) (by decide +kernel))) rfl, mm_tin (lw_c1 (List.mem_of_getElem? (i := 168) (by decide +kernel))) rfl⟩, by decide +kernel, by decide, rfl⟩
theorem li_X3_11 : mm_LI RX3 11 yX5_init cX5_init 1 := ⟨⟨mm_tin (lw_c1 (List.mem_of_getElem? (i := 148) (by decide +kernel))) rfl, mm_tin (lw_c1 (List.mem_of_getElem? (i := 25) (by decide +kernel))) rfl, mm_tin (lw_c1 (List.mem_of_getElem? (i := 2) (by decide +kernel))) rfl, mm_tin (lw_c1 (List.mem_of_getElem? (i := 26) (by decide +kernel))) rfl⟩, by decide +kernel, by decide, rfl⟩
theorem li_X4_24 : mm_LI RX4 24 yX5_init cX5_init 1 := ⟨⟨mm_tin (lw_c1 (List.mem_of_getElem? (i := 172) (by decide +kernel))) rfl, mm_tin (lw_c1 (List.mem_of_getElem? (i := 25) (by decide +kernel))) rfl, mm_tin (lw_c1 (List.mem_of_getElem? (i := 2) (by decide +kernel))) rfl, mm_tin (lw_c1 (List.mem_of_getElem? (i := 26) (by decide +kernel))) rfl⟩, by decide +kernel, by decide, rfl⟩
theorem lj_X8_21 : mm_LJ RX8 21 yX2_init cX2_init 1 := ⟨⟨by decide +kernel, mm_tin (lw_c1 (List.mem_of_getElem? (i := 106) (by decide +kernel))) rfl, mm_tin (lw_c1 (List.mem_of_getElem? (i := 4) (by decide +kernel))) rfl, mm_tin (lw_c1 (List.mem_of_getElem? (i := 107) (by decide +kernel))) rfl⟩, by decide +kernel, by decide, rfl⟩
theorem lj_X8_28 : mm_LJ RX8 28 yX3_init cX3_init 1 := ⟨⟨by decide +kernel, mm_tin (lw_c1 (List.mem_of_getElem? (i := 144) (by decide +kernel))) rfl, mm_tin (lw_c1 (List.mem_of_getElem? (i := 5) (by decide +kernel))) rfl, mm_tin (lw_c1 (List.mem_of_getElem? (i := 145) (by decide +kernel))) rfl⟩, by decide +kernel, by decide, rfl⟩
theorem lj_X8_42 : mm_LJ RX8 42 yX7_init cX7_init 1 := ⟨⟨by decide +kernel, mm_tin (lw_c1 (List.mem_of_getElem? (i := 205) (by decide +kernel))) rfl, mm_tin (lw_c1 (List.mem_of_getElem? (i := 7) (by decide +kernel))) rfl, mm_tin (lw_c1 (List.mem_of_getElem? (i := 206) (by decide +kernel))) rfl⟩, by decide +kernel, by decide, rfl⟩
theorem lj_X8_49 : mm_LJ RX8 49 yX0_init cX0_init 1 := ⟨⟨by decide +kernel, mm_tin (lw_c1 (List.mem_of_getElem? (i := 221) (by decide +kernel))) rfl, mm_tin (lw_c1 (List.mem_of_getElem? (i := 8) (by decide +kernel))) rfl, mm_tin (lw_c1 (List.mem_of_getElem? (i := 222) (by decide +kernel))) rfl⟩, by decide +kernel, by decide, rfl⟩
theorem lj_X8_56 : mm_LJ RX8 56 yX1_init cX1_init 1 := ⟨⟨by decide +kernel, mm_tin (lw_c2 (List.mem_of_getElem? (i := 6) (by decide +kernel))) rfl, mm_tin (lw_c1 (List.mem_of_getElem? (i := 9) (by decide +kernel))) rfl, mm_tin (lw_c2 (List.mem_of_getElem? (i := 7) (by decide +kernel))) rfl⟩, by decide +kernel, by decide, rfl⟩
theorem lj_X8_67 : mm_LJ RX8 67 yX6_init cX6_init 1 := ⟨⟨by decide +kernel, mm_tin (lw_c2 (List.mem_of_getElem? (i := 32) (by decide +kernel))) rfl, mm_tin (lw_c1 (List.mem_of_getElem? (i := 10) (by decide +kernel))) rfl, mm_tin (lw_c2 (List.mem_of_getElem? (i := 33) (by decide +kernel))) rfl⟩, by decide +kernel, by decide, rfl⟩
theorem kl_X8_7 : Cond.classLink RX8 7 RX5 ∈ mm_tbl := mm_tin (lw_c1 (List.mem_of_getElem? (i := 22) (by decide +kernel))) rfl
theorem kl_X8_19 : Cond.classLink RX8 19 RX2 ∈ mm_tbl := mm_tin (lw_c1 (List.mem_of_getElem? (i := 103) (by decide +kernel))) rfl
theorem kl_X8_26 : Cond.classLink RX8 26 RX3 ∈ mm_tbl := mm_tin (lw_c1 (List.mem_of_getElem? (i := 141) (by decide +kernel))) rfl
theorem kl_X8_33 : Cond.classLink RX8 33 RX4 ∈ mm_tbl := mm_tin (lw_c1 (List.mem_of_getElem? (i := 164) (by decide +kernel))) rfl
theorem kl_X8_40 : Cond.classLink RX8 40 RX7 ∈ mm_tbl := mm_tin (lw_c1 (List.mem_of_getElem? (i := 202) (by decide +kernel))) rfl
theorem kl_X8_47 : Cond.classLink RX8 47 RX0 ∈ mm_tbl := mm_tin (lw_c1 (List.mem_of_getElem? (i := 218) (by decide +kernel))) rfl
theorem kl_X8_54 : Cond.classLink RX8 54 RX1 ∈ mm_tbl := mm_tin (lw_c2 (List.mem_of_getElem? (i := 3) (by decide +kernel))) rfl
theorem kl_X8_61 : Cond.classLink RX8 61 RX6 ∈ mm_tbl := mm_tin (lw_c2 (List.mem_of_getElem? (i := 28) (by decide +kernel))) rfl
theorem kl_X3_9 : Cond.classLink RX3 9 RX5 ∈ mm_tbl := mm_tin (lw_c1 (List.mem_of_getElem? (i := 147) (by decide +kernel))) rfl
theorem kl_X4_9 : Cond.classLink RX4 9 RX5 ∈ mm_tbl := mm_tin (lw_c1 (List.mem_of_getElem? (i := 170) (by decide +kernel))) rfl
theorem ol_X8_1 : Cond.methodLink RX8 1 objectInit ∈ mm_tbl := mm_tin (lw_c1 (List.mem_of_getElem? (i := 19) (by decide +kernel))) rfl
theorem ol_X0_3 : Cond.methodLink RX0 3 objectInit ∈ mm_tbl := mm_tin (lw_c1 (List.mem_of_getElem? (i := 223) (by decide +kernel))) rfl
theorem ol_X1_3 : Cond.methodLink RX1 3 objectInit ∈ mm_tbl := mm_tin (lw_c2 (List.mem_of_getElem? (i := 8) (by decide +kernel))) rfl
theorem ol_X2_3 : Cond.methodLink RX2 3 objectInit ∈ mm_tbl := mm_tin (lw_c1 (List.mem_of_getElem? (i := 108) (by decide +kernel))) rfl
theorem ol_X3_3 : Cond.methodLink RX3 3 objectInit ∈ mm_tbl := mm_tin (lw_c1 (List.mem_of_getElem? (i := 146) (by decide +kernel))) rfl
theorem ol_X4_3 : Cond.methodLink RX4 3 objectInit ∈ mm_tbl := mm_tin (lw_c1 (List.mem_of_getElem? (i := 169) (by decide +kernel))) rfl
theorem ol_X5_3 : Cond.methodLink RX5 3 objectInit ∈ mm_tbl := mm_tin (lw_c1 (List.mem_of_getElem? (i := 27) (by decide +kernel))) rfl
theorem ol_X6_3 : Cond.methodLink RX6 3 objectInit ∈ mm_tbl := mm_tin (lw_c2 (List.mem_of_getElem? (i := 34) (by decide +kernel))) rfl
theorem ol_X7_3 : Cond.methodLink RX7 3 objectInit ∈ mm_tbl := mm_tin (lw_c1 (List.mem_of_getElem? (i := 207) (by decide +kernel))) rfl
theorem ol_X9_1 : Cond.methodLink RX9 1 objectInit ∈ mm_tbl := mm_tin (lw_c4 (List.mem_of_getElem? (i := 232) (by decide +kernel))) rfl
theorem dX0_init_0 : decode cX0_init 0 = .ok (.aload_n 0, 1) := by decide +kernel
theorem dX0_init_1 : decode cX0_init 1 = .ok (.invokespecial 3, 3) := by decide +kernel
theorem dX0_init_4 : decode cX0_init 4 = .ok (.aload_n 0, 1) := by decide +kernel
theorem dX0_init_5 : decode cX0_init 5 = .ok (.bipush 20, 2) := by decide +kernel
theorem dX0_init_7 : decode cX0_init 7 = .ok (.putfield 9, 3) := by decide +kernel
theorem dX0_init_10 : decode cX0_init 10 = .ok (.aload_n 0, 1) := by decide +kernel
theorem dX0_init_11 : decode cX0_init 11 = .ok (.bipush 40, 2) := by decide +kernel
theorem dX0_init_13 : decode cX0_init 13 = .ok (.newarray .int, 2) := by decide +kernel
theorem dX0_init_15 : decode cX0_init 15 = .ok (.putfield 15, 3) := by decide +kernel
theorem dX0_init_18 : decode cX0_init 18 = .ok (.aload_n 0, 1) := by decide +kernel
theorem dX0_init_19 : decode cX0_init 19 = .ok (.bipush 40, 2) := by decide +kernel
theorem dX0_init_21 : decode cX0_init 21 = .ok (.newarray .int, 2) := by decide +kernel
theorem dX0_init_23 : decode cX0_init 23 = .ok (.putfield 19, 3) := by decide +kernel
theorem dX0_init_26 : decode cX0_init 26 = .ok (.return_, 1) := by decide +kernel
abbrev wn_X0 (cI cL cS cH : ClassId) (a : Nat → Nat) : va_W := wd_X0 cI cL cS cH a 20 0 0 (mm_zs 40) (mm_zs 40)
set_option maxHeartbeats 8000000 in
set_option maxRecDepth 100000 in
theorem cnX0 {l : Launch} {D : va_G} {cI cL cS cH : ClassId} {o : Nat} : mm_Cn l yX0_init cX0_init 1 1 2 80 D (mm_T cI cL cS cH) o [(o, .inr (0, [.int 0, .int 0, .int 0, .null, .null]))] (wn_X0 cI cL cS cH) := by
  refine mm_ofn (by decide) rfl (by decide) ?_
  intro p e s m args below meth c A H locs ls C0 hin hO1 hO2 hP hD hA hS hl
  have C0 : mm_Cx p s m args meth c RX0 cX0_init 1 none D (mm_T cI cL cS cH) A := C0
  obtain ⟨hx, hb, hml, hown, hts, hr, hlocks, hK, hSt⟩ := id C0
  refine lv_aload_n hx hb dX0_init_0 rfl (lv_at hl 0 rfl) ?_
  refine mm_obj C0 ol_X0_3 hl.1 (by decide) dX0_init_1 ?_
  refine W.eq (g2 := F0 m 4 ls []) rfl ?_
  refine lv_aload_n hx hb dX0_init_4 rfl (lv_at hl 0 rfl) ?_
  refine lv_bipush (v := 20) hx hb dX0_init_5 (by decide) ?_
  refine mm_put C0 hP hD hS iw_X0 tyX0 tyX0_ok nmX0 0 rfl rfl 0 (by decide) fl_X0_9 rfl rfl rfl (Nat.le_of_ble_eq_true rfl) dX0_init_7 (w2 := ([(o, .inr (0, [.int 20, .int 0, .int 0, .null, .null]))] : va_W)) rfl (fun H locs hP hD hS => ?_)
  refine lv_aload_n hx hb dX0_init_10 rfl (lv_at hl 0 rfl) ?_
  refine lv_bipush (v := 40) hx hb dX0_init_11 (by decide) ?_
  refine mm_newi (N := 40) C0 hP hD hA hS (by decide) (by decide) (by decide) (Nat.le_of_ble_eq_true rfl) (Nat.le_of_ble_eq_true rfl) dX0_init_13 (fun q1 H hP hD hS => ?_)
  have hP : va_P D mm_cl ([(o, .inr (0, [.int 20, .int 0, .int 0, .null, .null])), (q1, mm_li cI (mm_zs 40))] : va_W) H := hP
  have hD : va_D A ([(o, .inr (0, [.int 20, .int 0, .int 0, .null, .null])), (q1, mm_li cI (mm_zs 40))] : va_W) := hD
  refine mm_putf C0 hin hP hD hS iw_X0 tyX0 tyX0_ok nmX0 0 rfl rfl 3 (by decide) fl_X0_15 rfl rfl rfl rfl (Nat.le_of_ble_eq_true rfl) dX0_init_15 (w2 := ([(o, .inr (0, [.int 20, .int 0, .int 0, .ref q1, .null])), (q1, mm_li cI (mm_zs 40))] : va_W)) rfl (fun H locs hP hD hS => ?_)
  refine lv_aload_n hx hb dX0_init_18 rfl (lv_at hl 0 rfl) ?_
  refine lv_bipush (v := 40) hx hb dX0_init_19 (by decide) ?_
  refine mm_newi (N := 40) C0 hP hD hA hS (by decide) (by decide) (by decide) (Nat.le_of_ble_eq_true rfl) (Nat.le_of_ble_eq_true rfl) dX0_init_21 (fun q2 H hP hD hS => ?_)
  have hP : va_P D mm_cl ([(o, .inr (0, [.int 20, .int 0, .int 0, .ref q1, .null])), (q1, mm_li cI (mm_zs 40)), (q2, mm_li cI (mm_zs 40))] : va_W) H := hP
  have hD : va_D A ([(o, .inr (0, [.int 20, .int 0, .int 0, .ref q1, .null])), (q1, mm_li cI (mm_zs 40)), (q2, mm_li cI (mm_zs 40))] : va_W) := hD
  refine mm_putf C0 hin hP hD hS iw_X0 tyX0 tyX0_ok nmX0 0 rfl rfl 4 (by decide) fl_X0_19 rfl rfl rfl rfl (Nat.le_of_ble_eq_true rfl) dX0_init_23 (w2 := ([(o, .inr (0, [.int 20, .int 0, .int 0, .ref q1, .ref q2])), (q1, mm_li cI (mm_zs 40)), (q2, mm_li cI (mm_zs 40))] : va_W)) rfl (fun H locs hP hD hS => ?_)
  exact mm_nret (fun k => [o, q1, q2].getD k 0) rfl [0, 1, 2] (by decide) rfl C0 hP hD hS dX0_init_26 (Nat.le_of_ble_eq_true rfl) (Nat.le_of_ble_eq_true rfl)
theorem dX1_init_0 : decode cX1_init 0 = .ok (.aload_n 0, 1) := by decide +kernel
theorem dX1_init_1 : decode cX1_init 1 = .ok (.invokespecial 3, 3) := by decide +kernel
theorem dX1_init_4 : decode cX1_init 4 = .ok (.aload_n 0, 1) := by decide +kernel
theorem dX1_init_5 : decode cX1_init 5 = .ok (.bipush 50, 2) := by decide +kernel
theorem dX1_init_7 : decode cX1_init 7 = .ok (.newarray .int, 2) := by decide +kernel
theorem dX1_init_9 : decode cX1_init 9 = .ok (.putfield 9, 3) := by decide +kernel
theorem dX1_init_12 : decode cX1_init 12 = .ok (.aload_n 0, 1) := by decide +kernel
theorem dX1_init_13 : decode cX1_init 13 = .ok (.bipush 24, 2) := by decide +kernel
theorem dX1_init_15 : decode cX1_init 15 = .ok (.newarray .int, 2) := by decide +kernel
theorem dX1_init_17 : decode cX1_init 17 = .ok (.putfield 15, 3) := by decide +kernel
theorem dX1_init_20 : decode cX1_init 20 = .ok (.return_, 1) := by decide +kernel
abbrev wn_X1 (cI cL cS cH : ClassId) (a : Nat → Nat) : va_W := wd_X1 cI cL cS cH a 0 0 0 (mm_zs 50) (mm_zs 24)
set_option maxHeartbeats 8000000 in
set_option maxRecDepth 100000 in
theorem cnX1 {l : Launch} {D : va_G} {cI cL cS cH : ClassId} {o : Nat} : mm_Cn l yX1_init cX1_init 1 1 2 74 D (mm_T cI cL cS cH) o [(o, .inr (1, [.int 0, .int 0, .null, .null, .int 0]))] (wn_X1 cI cL cS cH) := by
  refine mm_ofn (by decide) rfl (by decide) ?_
  intro p e s m args below meth c A H locs ls C0 hin hO1 hO2 hP hD hA hS hl
  have C0 : mm_Cx p s m args meth c RX1 cX1_init 1 none D (mm_T cI cL cS cH) A := C0
  obtain ⟨hx, hb, hml, hown, hts, hr, hlocks, hK, hSt⟩ := id C0
  refine lv_aload_n hx hb dX1_init_0 rfl (lv_at hl 0 rfl) ?_
  refine mm_obj C0 ol_X1_3 hl.1 (by decide) dX1_init_1 ?_
  refine W.eq (g2 := F0 m 4 ls []) rfl ?_
  refine lv_aload_n hx hb dX1_init_4 rfl (lv_at hl 0 rfl) ?_
  refine lv_bipush (v := 50) hx hb dX1_init_5 (by decide) ?_
  refine mm_newi (N := 50) C0 hP hD hA hS (by decide) (by decide) (by decide) (Nat.le_of_ble_eq_true rfl) (Nat.le_of_ble_eq_true rfl) dX1_init_7 (fun q1 H hP hD hS => ?_)
  have hP : va_P D mm_cl ([(o, .inr (1, [.int 0, .int 0, .null, .null, .int 0])), (q1, mm_li cI (mm_zs 50))] : va_W) H := hP
  have hD : va_D A ([(o, .inr (1, [.int 0, .int 0, .null, .null, .int 0])), (q1, mm_li cI (mm_zs 50))] : va_W) := hD
  refine mm_putf C0 hin hP hD hS iw_X1 tyX1 tyX1_ok nmX1 0 rfl rfl 2 (by decide) fl_X1_9 rfl rfl rfl rfl (Nat.le_of_ble_eq_true rfl) dX1_init_9 (w2 := ([(o, .inr (1, [.int 0, .int 0, .ref q1, .null, .int 0])), (q1, mm_li cI (mm_zs 50))] : va_W)) rfl (fun H locs hP hD hS => ?_)
  refine lv_aload_n hx hb dX1_init_12 rfl (lv_at hl 0 rfl) ?_
  refine lv_bipush (v := 24) hx hb dX1_init_13 (by decide) ?_
  refine mm_newi (N := 24) C0 hP hD hA hS (by decide) (by decide) (by decide) (Nat.le_of_ble_eq_true rfl) (Nat.le_of_ble_eq_true rfl) dX1_init_15 (fun q2 H hP hD hS => ?_)
  have hP : va_P D mm_cl ([(o, .inr (1, [.int 0, .int 0, .ref q1, .null, .int 0])), (q1, mm_li cI (mm_zs 50)), (q2, mm_li cI (mm_zs 24))] : va_W) H := hP
  have hD : va_D A ([(o, .inr (1, [.int 0, .int 0, .ref q1, .null, .int 0])), (q1, mm_li cI (mm_zs 50)), (q2, mm_li cI (mm_zs 24))] : va_W) := hD
  refine mm_putf C0 hin hP hD hS iw_X1 tyX1 tyX1_ok nmX1 0 rfl rfl 3 (by decide) fl_X1_15 rfl rfl rfl rfl (Nat.le_of_ble_eq_true rfl) dX1_init_17 (w2 := ([(o, .inr (1, [.int 0, .int 0, .ref q1, .ref q2, .int 0])), (q1, mm_li cI (mm_zs 50)), (q2, mm_li cI (mm_zs 24))] : va_W)) rfl (fun H locs hP hD hS => ?_)
  exact mm_nret (fun k => [o, q1, q2].getD k 0) rfl [0, 1, 2] (by decide) rfl C0 hP hD hS dX1_init_20 (Nat.le_of_ble_eq_true rfl) (Nat.le_of_ble_eq_true rfl)
theorem dX2_init_0 : decode cX2_init 0 = .ok (.aload_n 0, 1) := by decide +kernel
theorem dX2_init_1 : decode cX2_init 1 = .ok (.invokespecial 3, 3) := by decide +kernel
theorem dX2_init_4 : decode cX2_init 4 = .ok (.aload_n 0, 1) := by decide +kernel
theorem dX2_init_5 : decode cX2_init 5 = .ok (.bipush 120, 2) := by decide +kernel
theorem dX2_init_7 : decode cX2_init 7 = .ok (.newarray .int, 2) := by decide +kernel
theorem dX2_init_9 : decode cX2_init 9 = .ok (.putfield 9, 3) := by decide +kernel
theorem dX2_init_12 : decode cX2_init 12 = .ok (.aload_n 0, 1) := by decide +kernel
theorem dX2_init_13 : decode cX2_init 13 = .ok (.bipush 121, 2) := by decide +kernel
theorem dX2_init_15 : decode cX2_init 15 = .ok (.newarray .int, 2) := by decide +kernel
theorem dX2_init_17 : decode cX2_init 17 = .ok (.putfield 15, 3) := by decide +kernel
theorem dX2_init_20 : decode cX2_init 20 = .ok (.aload_n 0, 1) := by decide +kernel
theorem dX2_init_21 : decode cX2_init 21 = .ok (.bipush 121, 2) := by decide +kernel
theorem dX2_init_23 : decode cX2_init 23 = .ok (.newarray .int, 2) := by decide +kernel
theorem dX2_init_25 : decode cX2_init 25 = .ok (.putfield 18, 3) := by decide +kernel
theorem dX2_init_28 : decode cX2_init 28 = .ok (.aload_n 0, 1) := by decide +kernel
theorem dX2_init_29 : decode cX2_init 29 = .ok (.bipush 121, 2) := by decide +kernel
theorem dX2_init_31 : decode cX2_init 31 = .ok (.newarray .int, 2) := by decide +kernel
theorem dX2_init_33 : decode cX2_init 33 = .ok (.putfield 21, 3) := by decide +kernel
theorem dX2_init_36 : decode cX2_init 36 = .ok (.return_, 1) := by decide +kernel
abbrev wn_X2 (cI cL cS cH : ClassId) (a : Nat → Nat) : va_W := wd_X2 cI cL cS cH a 0 0 0 0 0 0 (mm_zs 120) (mm_zs 121) (mm_zs 121) (mm_zs 121)
set_option maxHeartbeats 8000000 in
set_option maxRecDepth 100000 in
theorem cnX2 {l : Launch} {D : va_G} {cI cL cS cH : ClassId} {o : Nat} : mm_Cn l yX2_init cX2_init 1 1 4 483 D (mm_T cI cL cS cH) o [(o, .inr (2, [.int 0, .null, .null, .int 0, .null, .int 0, .int 0, .int 0, .null, .int 0]))] (wn_X2 cI cL cS cH) := by
  refine mm_ofn (by decide) rfl (by decide) ?_
  intro p e s m args below meth c A H locs ls C0 hin hO1 hO2 hP hD hA hS hl
  have C0 : mm_Cx p s m args meth c RX2 cX2_init 1 none D (mm_T cI cL cS cH) A := C0
  obtain ⟨hx, hb, hml, hown, hts, hr, hlocks, hK, hSt⟩ := id C0
  refine lv_aload_n hx hb dX2_init_0 rfl (lv_at hl 0 rfl) ?_
  refine mm_obj C0 ol_X2_3 hl.1 (by decide) dX2_init_1 ?_
  refine W.eq (g2 := F0 m 4 ls []) rfl ?_
  refine lv_aload_n hx hb dX2_init_4 rfl (lv_at hl 0 rfl) ?_
  refine lv_bipush (v := 120) hx hb dX2_init_5 (by decide) ?_
  refine mm_newi (N := 120) C0 hP hD hA hS (by decide) (by decide) (by decide) (Nat.le_of_ble_eq_true rfl) (Nat.le_of_ble_eq_true rfl) dX2_init_7 (fun q1 H hP hD hS => ?_)
  have hP : va_P D mm_cl ([(o, .inr (2, [.int 0, .null, .null, .int 0, .null, .int 0, .int 0, .int 0, .null, .int 0])), (q1, mm_li cI (mm_zs 120))] : va_W) H := hP
  have hD : va_D A ([(o, .inr (2, [.int 0, .null, .null, .int 0, .null, .int 0, .int 0, .int 0, .null, .int 0])), (q1, mm_li cI (mm_zs 120))] : va_W) := hD
  refine mm_putf C0 hin hP hD hS iw_X2 tyX2 tyX2_ok nmX2 0 rfl rfl 1 (by decide) fl_X2_9 rfl rfl rfl rfl (Nat.le_of_ble_eq_true rfl) dX2_init_9 (w2 := ([(o, .inr (2, [.int 0, .ref q1, .null, .int 0, .null, .int 0, .int 0, .int 0, .null, .int 0])), (q1, mm_li cI (mm_zs 120))] : va_W)) rfl (fun H locs hP hD hS => ?_)
  refine lv_aload_n hx hb dX2_init_12 rfl (lv_at hl 0 rfl) ?_
  refine lv_bipush (v := 121) hx hb dX2_init_13 (by decide) ?_
  refine mm_newi (N := 121) C0 hP hD hA hS (by decide) (by decide) (by decide) (Nat.le_of_ble_eq_true rfl) (Nat.le_of_ble_eq_true rfl) dX2_init_15 (fun q2 H hP hD hS => ?_)
  have hP : va_P D mm_cl ([(o, .inr (2, [.int 0, .ref q1, .null, .int 0, .null, .int 0, .int 0, .int 0, .null, .int 0])), (q1, mm_li cI (mm_zs 120)), (q2, mm_li cI (mm_zs 121))] : va_W) H := hP
  have hD : va_D A ([(o, .inr (2, [.int 0, .ref q1, .null, .int 0, .null, .int 0, .int 0, .int 0, .null, .int 0])), (q1, mm_li cI (mm_zs 120)), (q2, mm_li cI (mm_zs 121))] : va_W) := hD
  refine mm_putf C0 hin hP hD hS iw_X2 tyX2 tyX2_ok nmX2 0 rfl rfl 2 (by decide) fl_X2_15 rfl rfl rfl rfl (Nat.le_of_ble_eq_true rfl) dX2_init_17 (w2 := ([(o, .inr (2, [.int 0, .ref q1, .ref q2, .int 0, .null, .int 0, .int 0, .int 0, .null, .int 0])), (q1, mm_li cI (mm_zs 120)), (q2, mm_li cI (mm_zs 121))] : va_W)) rfl (fun H locs hP hD hS => ?_)
  refine lv_aload_n hx hb dX2_init_20 rfl (lv_at hl 0 rfl) ?_
  refine lv_bipush (v := 121) hx hb dX2_init_21 (by decide) ?_
  refine mm_newi (N := 121) C0 hP hD hA hS (by decide) (by decide) (by decide) (Nat.le_of_ble_eq_true rfl) (Nat.le_of_ble_eq_true rfl) dX2_init_23 (fun q3 H hP hD hS => ?_)
  have hP : va_P D mm_cl ([(o, .inr (2, [.int 0, .ref q1, .ref q2, .int 0, .null, .int 0, .int 0, .int 0, .null, .int 0])), (q1, mm_li cI (mm_zs 120)), (q2, mm_li cI (mm_zs 121)), (q3, mm_li cI (mm_zs 121))] : va_W) H := hP
  have hD : va_D A ([(o, .inr (2, [.int 0, .ref q1, .ref q2, .int 0, .null, .int 0, .int 0, .int 0, .null, .int 0])), (q1, mm_li cI (mm_zs 120)), (q2, mm_li cI (mm_zs 121)), (q3, mm_li cI (mm_zs 121))] : va_W) := hD
  refine mm_putf C0 hin hP hD hS iw_X2 tyX2 tyX2_ok nmX2 0 rfl rfl 4 (by decide) fl_X2_18 rfl rfl rfl rfl (Nat.le_of_ble_eq_true rfl) dX2_init_25 (w2 := ([(o, .inr (2, [.int 0, .ref q1, .ref q2, .int 0, .ref q3, .int 0, .int 0, .int 0, .null, .int 0])), (q1, mm_li cI (mm_zs 120)), (q2, mm_li cI (mm_zs 121)), (q3, mm_li cI (mm_zs 121))] : va_W)) rfl (fun H locs hP hD hS => ?_)
  refine lv_aload_n hx hb dX2_init_28 rfl (lv_at hl 0 rfl) ?_
  refine lv_bipush (v := 121) hx hb dX2_init_29 (by decide) ?_
  refine mm_newi (N := 121) C0 hP hD hA hS (by decide) (by decide) (by decide) (Nat.le_of_ble_eq_true rfl) (Nat.le_of_ble_eq_true rfl) dX2_init_31 (fun q4 H hP hD hS => ?_)
  have hP : va_P D mm_cl ([(o, .inr (2, [.int 0, .ref q1, .ref q2, .int 0, .ref q3, .int 0, .int 0, .int 0, .null, .int 0])), (q1, mm_li cI (mm_zs 120)), (q2, mm_li cI (mm_zs 121)), (q3, mm_li cI (mm_zs 121)), (q4, mm_li cI (mm_zs 121))] : va_W) H := hP
  have hD : va_D A ([(o, .inr (2, [.int 0, .ref q1, .ref q2, .int 0, .ref q3, .int 0, .int 0, .int 0, .null, .int 0])), (q1, mm_li cI (mm_zs 120)), (q2, mm_li cI (mm_zs 121)), (q3, mm_li cI (mm_zs 121)), (q4, mm_li cI (mm_zs 121))] : va_W) := hD
  refine mm_putf C0 hin hP hD hS iw_X2 tyX2 tyX2_ok nmX2 0 rfl rfl 8 (by decide) fl_X2_21 rfl rfl rfl rfl (Nat.le_of_ble_eq_true rfl) dX2_init_33 (w2 := ([(o, .inr (2, [.int 0, .ref q1, .ref q2, .int 0, .ref q3, .int 0, .int 0, .int 0, .ref q4, .int 0])), (q1, mm_li cI (mm_zs 120)), (q2, mm_li cI (mm_zs 121)), (q3, mm_li cI (mm_zs 121)), (q4, mm_li cI (mm_zs 121))] : va_W)) rfl (fun H locs hP hD hS => ?_)
  exact mm_nret (fun k => [o, q1, q2, q3, q4].getD k 0) rfl [0, 1, 2, 3, 4] (by decide) rfl C0 hP hD hS dX2_init_36 (Nat.le_of_ble_eq_true rfl) (Nat.le_of_ble_eq_true rfl)
theorem dX6_init_0 : decode cX6_init 0 = .ok (.aload_n 0, 1) := by decide +kernel
theorem dX6_init_1 : decode cX6_init 1 = .ok (.invokespecial 3, 3) := by decide +kernel
theorem dX6_init_4 : decode cX6_init 4 = .ok (.aload_n 0, 1) := by decide +kernel
theorem dX6_init_5 : decode cX6_init 5 = .ok (.bipush 60, 2) := by decide +kernel
theorem dX6_init_7 : decode cX6_init 7 = .ok (.newarray .long, 2) := by decide +kernel
theorem dX6_init_9 : decode cX6_init 9 = .ok (.putfield 9, 3) := by decide +kernel
theorem dX6_init_12 : decode cX6_init 12 = .ok (.return_, 1) := by decide +kernel
abbrev wn_X6 (cI cL cS cH : ClassId) (a : Nat → Nat) : va_W := wd_X6 cI cL cS cH a 0 0 0 0 (mm_zl 60)
set_option maxHeartbeats 8000000 in
set_option maxRecDepth 100000 in
theorem cnX6 {l : Launch} {D : va_G} {cI cL cS cH : ClassId} {o : Nat} : mm_Cn l yX6_init cX6_init 1 1 1 60 D (mm_T cI cL cS cH) o [(o, .inr (6, [.int 0, .int 0, .int 0, .int 0, .null]))] (wn_X6 cI cL cS cH) := by
  refine mm_ofn (by decide) rfl (by decide) ?_
  intro p e s m args below meth c A H locs ls C0 hin hO1 hO2 hP hD hA hS hl
  have C0 : mm_Cx p s m args meth c RX6 cX6_init 1 none D (mm_T cI cL cS cH) A := C0
  obtain ⟨hx, hb, hml, hown, hts, hr, hlocks, hK, hSt⟩ := id C0
  refine lv_aload_n hx hb dX6_init_0 rfl (lv_at hl 0 rfl) ?_
  refine mm_obj C0 ol_X6_3 hl.1 (by decide) dX6_init_1 ?_
  refine W.eq (g2 := F0 m 4 ls []) rfl ?_
  refine lv_aload_n hx hb dX6_init_4 rfl (lv_at hl 0 rfl) ?_
  refine lv_bipush (v := 60) hx hb dX6_init_5 (by decide) ?_
  refine mm_newl (N := 60) C0 hP hD hA hS (by decide) (by decide) (by decide) (Nat.le_of_ble_eq_true rfl) (Nat.le_of_ble_eq_true rfl) dX6_init_7 (fun q1 H hP hD hS => ?_)
  have hP : va_P D mm_cl ([(o, .inr (6, [.int 0, .int 0, .int 0, .int 0, .null])), (q1, mm_ll cL (mm_zl 60))] : va_W) H := hP
  have hD : va_D A ([(o, .inr (6, [.int 0, .int 0, .int 0, .int 0, .null])), (q1, mm_ll cL (mm_zl 60))] : va_W) := hD
  refine mm_putf C0 hin hP hD hS iw_X6 tyX6 tyX6_ok nmX6 0 rfl rfl 4 (by decide) fl_X6_9 rfl rfl rfl rfl (Nat.le_of_ble_eq_true rfl) dX6_init_9 (w2 := ([(o, .inr (6, [.int 0, .int 0, .int 0, .int 0, .ref q1])), (q1, mm_ll cL (mm_zl 60))] : va_W)) rfl (fun H locs hP hD hS => ?_)
  exact mm_nret (fun k => [o, q1].getD k 0) rfl [0, 1] (by decide) rfl C0 hP hD hS dX6_init_12 (Nat.le_of_ble_eq_true rfl) (Nat.le_of_ble_eq_true rfl)
theorem dX7_init_0 : decode cX7_init 0 = .ok (.aload_n 0, 1) := by decide +kernel
theorem dX7_init_1 : decode cX7_init 1 = .ok (.invokespecial 3, 3) := by decide +kernel
theorem dX7_init_4 : decode cX7_init 4 = .ok (.aload_n 0, 1) := by decide +kernel
theorem dX7_init_5 : decode cX7_init 5 = .ok (.sipush 680, 3) := by decide +kernel
theorem dX7_init_8 : decode cX7_init 8 = .ok (.newarray .int, 2) := by decide +kernel
theorem dX7_init_10 : decode cX7_init 10 = .ok (.putfield 11, 3) := by decide +kernel
theorem dX7_init_13 : decode cX7_init 13 = .ok (.aload_n 0, 1) := by decide +kernel
theorem dX7_init_14 : decode cX7_init 14 = .ok (.bipush 8, 2) := by decide +kernel
theorem dX7_init_16 : decode cX7_init 16 = .ok (.newarray .int, 2) := by decide +kernel
theorem dX7_init_18 : decode cX7_init 18 = .ok (.putfield 15, 3) := by decide +kernel
theorem dX7_init_21 : decode cX7_init 21 = .ok (.aload_n 0, 1) := by decide +kernel
theorem dX7_init_22 : decode cX7_init 22 = .ok (.bipush 7, 2) := by decide +kernel
theorem dX7_init_24 : decode cX7_init 24 = .ok (.newarray .int, 2) := by decide +kernel
theorem dX7_init_26 : decode cX7_init 26 = .ok (.putfield 18, 3) := by decide +kernel
theorem dX7_init_29 : decode cX7_init 29 = .ok (.return_, 1) := by decide +kernel
abbrev wn_X7 (cI cL cS cH : ClassId) (a : Nat → Nat) : va_W := wd_X7 cI cL cS cH a (mm_zs 680) (mm_zs 8) (mm_zs 7)
set_option maxHeartbeats 8000000 in
set_option maxRecDepth 100000 in
theorem cnX7 {l : Launch} {D : va_G} {cI cL cS cH : ClassId} {o : Nat} : mm_Cn l yX7_init cX7_init 1 1 3 695 D (mm_T cI cL cS cH) o [(o, .inr (7, [.null, .null, .null]))] (wn_X7 cI cL cS cH) := by
  refine mm_ofn (by decide) rfl (by decide) ?_
  intro p e s m args below meth c A H locs ls C0 hin hO1 hO2 hP hD hA hS hl
  have C0 : mm_Cx p s m args meth c RX7 cX7_init 1 none D (mm_T cI cL cS cH) A := C0
  obtain ⟨hx, hb, hml, hown, hts, hr, hlocks, hK, hSt⟩ := id C0
  refine lv_aload_n hx hb dX7_init_0 rfl (lv_at hl 0 rfl) ?_
  refine mm_obj C0 ol_X7_3 hl.1 (by decide) dX7_init_1 ?_
  refine W.eq (g2 := F0 m 4 ls []) rfl ?_
  refine lv_aload_n hx hb dX7_init_4 rfl (lv_at hl 0 rfl) ?_
  refine lv_sipush (v := 680) hx hb dX7_init_5 (by decide) ?_
  refine mm_newi (N := 680) C0 hP hD hA hS (by decide) (by decide) (by decide) (Nat.le_of_ble_eq_true rfl) (Nat.le_of_ble_eq_true rfl) dX7_init_8 (fun q1 H hP hD hS => ?_)
  have hP : va_P D mm_cl ([(o, .inr (7, [.null, .null, .null])), (q1, mm_li cI (mm_zs 680))] : va_W) H := hP
  have hD : va_D A ([(o, .inr (7, [.null, .null, .null])), (q1, mm_li cI (mm_zs 680))] : va_W) := hD
  refine mm_putf C0 hin hP hD hS iw_X7 tyX7 tyX7_ok nmX7 0 rfl rfl 0 (by decide) fl_X7_11 rfl rfl rfl rfl (Nat.le_of_ble_eq_true rfl) dX7_init_10 (w2 := ([(o, .inr (7, [.ref q1, .null, .null])), (q1, mm_li cI (mm_zs 680))] : va_W)) rfl (fun H locs hP hD hS => ?_)
  refine lv_aload_n hx hb dX7_init_13 rfl (lv_at hl 0 rfl) ?_
  refine lv_bipush (v := 8) hx hb dX7_init_14 (by decide) ?_
  refine mm_newi (N := 8) C0 hP hD hA hS (by decide) (by decide) (by decide) (Nat.le_of_ble_eq_true rfl) (Nat.le_of_ble_eq_true rfl) dX7_init_16 (fun q2 H hP hD hS => ?_)
  have hP : va_P D mm_cl ([(o, .inr (7, [.ref q1, .null, .null])), (q1, mm_li cI (mm_zs 680)), (q2, mm_li cI (mm_zs 8))] : va_W) H := hP
  have hD : va_D A ([(o, .inr (7, [.ref q1, .null, .null])), (q1, mm_li cI (mm_zs 680)), (q2, mm_li cI (mm_zs 8))] : va_W) := hD
  refine mm_putf C0 hin hP hD hS iw_X7 tyX7 tyX7_ok nmX7 0 rfl rfl 1 (by decide) fl_X7_15 rfl rfl rfl rfl (Nat.le_of_ble_eq_true rfl) dX7_init_18 (w2 := ([(o, .inr (7, [.ref q1, .ref q2, .null])), (q1, mm_li cI (mm_zs 680)), (q2, mm_li cI (mm_zs 8))] : va_W)) rfl (fun H locs hP hD hS => ?_)
  refine lv_aload_n hx hb dX7_init_21 rfl (lv_at hl 0 rfl) ?_
  refine lv_bipush (v := 7) hx hb dX7_init_22 (by decide) ?_
  refine mm_newi (N := 7) C0 hP hD hA hS (by decide) (by decide) (by decide) (Nat.le_of_ble_eq_true rfl) (Nat.le_of_ble_eq_true rfl) dX7_init_24 (fun q3 H hP hD hS => ?_)
  have hP : va_P D mm_cl ([(o, .inr (7, [.ref q1, .ref q2, .null])), (q1, mm_li cI (mm_zs 680)), (q2, mm_li cI (mm_zs 8)), (q3, mm_li cI (mm_zs 7))] : va_W) H := hP
  have hD : va_D A ([(o, .inr (7, [.ref q1, .ref q2, .null])), (q1, mm_li cI (mm_zs 680)), (q2, mm_li cI (mm_zs 8)), (q3, mm_li cI (mm_zs 7))] : va_W) := hD
  refine mm_putf C0 hin hP hD hS iw_X7 tyX7 tyX7_ok nmX7 0 rfl rfl 2 (by decide) fl_X7_18 rfl rfl rfl rfl (Nat.le_of_ble_eq_true rfl) dX7_init_26 (w2 := ([(o, .inr (7, [.ref q1, .ref q2, .ref q3])), (q1, mm_li cI (mm_zs 680)), (q2, mm_li cI (mm_zs 8)), (q3, mm_li cI (mm_zs 7))] : va_W)) rfl (fun H locs hP hD hS => ?_)
  exact mm_nret (fun k => [o, q1, q2, q3].getD k 0) rfl [0, 1, 2, 3] (by decide) rfl C0 hP hD hS dX7_init_29 (Nat.le_of_ble_eq_true rfl) (Nat.le_of_ble_eq_true rfl)
theorem dX5_init_0 : decode cX5_init 0 = .ok (.aload_n 0, 1) := by decide +kernel
theorem dX5_init_1 : decode cX5_init 1 = .ok (.invokespecial 3, 3) := by decide +kernel
theorem dX5_init_4 : decode cX5_init 4 = .ok (.aload_n 0, 1) := by decide +kernel
theorem dX5_init_5 : decode cX5_init 5 = .ok (.bipush 32, 2) := by decide +kernel
theorem dX5_init_7 : decode cX5_init 7 = .ok (.newarray .int, 2) := by decide +kernel
theorem dX5_init_9 : decode cX5_init 9 = .ok (.putfield 9, 3) := by decide +kernel
theorem dX5_init_12 : decode cX5_init 12 = .ok (.aload_n 0, 1) := by decide +kernel
theorem dX5_init_13 : decode cX5_init 13 = .ok (.bipush 32, 2) := by decide +kernel
theorem dX5_init_15 : decode cX5_init 15 = .ok (.newarray .int, 2) := by decide +kernel
theorem dX5_init_17 : decode cX5_init 17 = .ok (.putfield 15, 3) := by decide +kernel
theorem dX5_init_20 : decode cX5_init 20 = .ok (.aload_n 0, 1) := by decide +kernel
theorem dX5_init_21 : decode cX5_init 21 = .ok (.bipush 32, 2) := by decide +kernel
theorem dX5_init_23 : decode cX5_init 23 = .ok (.newarray .int, 2) := by decide +kernel
theorem dX5_init_25 : decode cX5_init 25 = .ok (.putfield 18, 3) := by decide +kernel
theorem dX5_init_28 : decode cX5_init 28 = .ok (.aload_n 0, 1) := by decide +kernel
theorem dX5_init_29 : decode cX5_init 29 = .ok (.bipush 32, 2) := by decide +kernel
theorem dX5_init_31 : decode cX5_init 31 = .ok (.newarray .int, 2) := by decide +kernel
theorem dX5_init_33 : decode cX5_init 33 = .ok (.putfield 21, 3) := by decide +kernel
theorem dX5_init_36 : decode cX5_init 36 = .ok (.aload_n 0, 1) := by decide +kernel
theorem dX5_init_37 : decode cX5_init 37 = .ok (.bipush 64, 2) := by decide +kernel
theorem dX5_init_39 : decode cX5_init 39 = .ok (.newarray .int, 2) := by decide +kernel
theorem dX5_init_41 : decode cX5_init 41 = .ok (.putfield 24, 3) := by decide +kernel
theorem dX5_init_44 : decode cX5_init 44 = .ok (.aload_n 0, 1) := by decide +kernel
theorem dX5_init_45 : decode cX5_init 45 = .ok (.bipush 64, 2) := by decide +kernel
theorem dX5_init_47 : decode cX5_init 47 = .ok (.newarray .int, 2) := by decide +kernel
theorem dX5_init_49 : decode cX5_init 49 = .ok (.putfield 27, 3) := by decide +kernel
theorem dX5_init_52 : decode cX5_init 52 = .ok (.aload_n 0, 1) := by decide +kernel
theorem dX5_init_53 : decode cX5_init 53 = .ok (.bipush 64, 2) := by decide +kernel
theorem dX5_init_55 : decode cX5_init 55 = .ok (.newarray .int, 2) := by decide +kernel
theorem dX5_init_57 : decode cX5_init 57 = .ok (.putfield 30, 3) := by decide +kernel
theorem dX5_init_60 : decode cX5_init 60 = .ok (.aload_n 0, 1) := by decide +kernel
theorem dX5_init_61 : decode cX5_init 61 = .ok (.bipush 32, 2) := by decide +kernel
theorem dX5_init_63 : decode cX5_init 63 = .ok (.newarray .int, 2) := by decide +kernel
theorem dX5_init_65 : decode cX5_init 65 = .ok (.putfield 33, 3) := by decide +kernel
theorem dX5_init_68 : decode cX5_init 68 = .ok (.aload_n 0, 1) := by decide +kernel
theorem dX5_init_69 : decode cX5_init 69 = .ok (.iconst 2, 1) := by decide +kernel
theorem dX5_init_70 : decode cX5_init 70 = .ok (.iconst 4, 1) := by decide +kernel
theorem dX5_init_71 : decode cX5_init 71 = .ok (.invokevirtual 36, 3) := by decide +kernel
theorem dX5_init_74 : decode cX5_init 74 = .ok (.return_, 1) := by decide +kernel
abbrev wn_X5 (cI cL cS cH : ClassId) (a : Nat → Nat) : va_W := wd_X5 cI cL cS cH a 2 4 2 4 0 0 0 z5_rowOf z5_colOf (mm_zs 32) (mm_zs 32) (mm_zs 64) (mm_zs 64) (mm_zs 64) (mm_zs 32)
set_option maxHeartbeats 8000000 in
set_option maxRecDepth 100000 in
theorem cnX5 {l : Launch} {D : va_G} {cI cL cS cH : ClassId} {o : Nat} : mm_Cn l yX5_init cX5_init 1 3 8 352 D (mm_T cI cL cS cH) o [(o, .inr (5, [.int 0, .int 0, .int 0, .int 0, .int 0, .int 0, .int 0, .null, .null, .null, .null, .null, .null, .null, .null]))] (wn_X5 cI cL cS cH) := by
  refine mm_ofn (by decide) rfl (by decide) ?_
  intro p e s m args below meth c A H locs ls C0 hin hO1 hO2 hP hD hA hS hl
  have C0 : mm_Cx p s m args meth c RX5 cX5_init 1 none D (mm_T cI cL cS cH) A := C0
  obtain ⟨hx, hb, hml, hown, hts, hr, hlocks, hK, hSt⟩ := id C0
  refine lv_aload_n hx hb dX5_init_0 rfl (lv_at hl 0 rfl) ?_
  refine mm_obj C0 ol_X5_3 hl.1 (by decide) dX5_init_1 ?_
  refine W.eq (g2 := F0 m 4 ls []) rfl ?_
  refine lv_aload_n hx hb dX5_init_4 rfl (lv_at hl 0 rfl) ?_
  refine lv_bipush (v := 32) hx hb dX5_init_5 (by decide) ?_
  refine mm_newi (N := 32) C0 hP hD hA hS (by decide) (by decide) (by decide) (Nat.le_of_ble_eq_true rfl) (Nat.le_of_ble_eq_true rfl) dX5_init_7 (fun q1 H hP hD hS => ?_)
  have hP : va_P D mm_cl ([(o, .inr (5, [.int 0, .int 0, .int 0, .int 0, .int 0, .int 0, .int 0, .null, .null, .null, .null, .null, .null, .null, .null])), (q1, mm_li cI (mm_zs 32))] : va_W) H := hP
  have hD : va_D A ([(o, .inr (5, [.int 0, .int 0, .int 0, .int 0, .int 0, .int 0, .int 0, .null, .null, .null, .null, .null, .null, .null, .null])), (q1, mm_li cI (mm_zs 32))] : va_W) := hD
  refine mm_putf C0 hin hP hD hS iw_X5 tyX5 tyX5_ok nmX5 0 rfl rfl 7 (by decide) fl_X5_9 rfl rfl rfl rfl (Nat.le_of_ble_eq_true rfl) dX5_init_9 (w2 := ([(o, .inr (5, [.int 0, .int 0, .int 0, .int 0, .int 0, .int 0, .int 0, .ref q1, .null, .null, .null, .null, .null, .null, .null])), (q1, mm_li cI (mm_zs 32))] : va_W)) rfl (fun H locs hP hD hS => ?_)
  refine lv_aload_n hx hb dX5_init_12 rfl (lv_at hl 0 rfl) ?_
  refine lv_bipush (v := 32) hx hb dX5_init_13 (by decide) ?_
  refine mm_newi (N := 32) C0 hP hD hA hS (by decide) (by decide) (by decide) (Nat.le_of_ble_eq_true rfl) (Nat.le_of_ble_eq_true rfl) dX5_init_15 (fun q2 H hP hD hS => ?_)
  have hP : va_P D mm_cl ([(o, .inr (5, [.int 0, .int 0, .int 0, .int 0, .int 0, .int 0, .int 0, .ref q1, .null, .null, .null, .null, .null, .null, .null])), (q1, mm_li cI (mm_zs 32)), (q2, mm_li cI (mm_zs 32))] : va_W) H := hP
  have hD : va_D A ([(o, .inr (5, [.int 0, .int 0, .int 0, .int 0, .int 0, .int 0, .int 0, .ref q1, .null, .null, .null, .null, .null, .null, .null])), (q1, mm_li cI (mm_zs 32)), (q2, mm_li cI (mm_zs 32))] : va_W) := hD
  refine mm_putf C0 hin hP hD hS iw_X5 tyX5 tyX5_ok nmX5 0 rfl rfl 8 (by decide) fl_X5_15 rfl rfl rfl rfl (Nat.le_of_ble_eq_true rfl) dX5_init_17 (w2 := ([(o, .inr (5, [.int 0, .int 0, .int 0, .int 0, .int 0, .int 0, .int 0, .ref q1, .ref q2, .null, .null, .null, .null, .null, .null])), (q1, mm_li cI (mm_zs 32)), (q2, mm_li cI (mm_zs 32))] : va_W)) rfl (fun H locs hP hD hS => ?_)
  refine lv_aload_n hx hb dX5_init_20 rfl (lv_at hl 0 rfl) ?_
  refine lv_bipush (v := 32) hx hb dX5_init_21 (by decide) ?_
  refine mm_newi (N := 32) C0 hP hD hA hS (by decide) (by decide) (by decide) (Nat.le_of_ble_eq_true rfl) (Nat.le_of_ble_eq_true rfl) dX5_init_23 (fun q3 H hP hD hS => ?_)
  have hP : va_P D mm_cl ([(o, .inr (5, [.int 0, .int 0, .int 0, .int 0, .int 0, .int 0, .int 0, .ref q1, .ref q2, .null, .null, .null, .null, .null, .null])), (q1, mm_li cI (mm_zs 32)), (q2, mm_li cI (mm_zs 32)), (q3, mm_li cI (mm_zs 32))] : va_W) H := hP
  have hD : va_D A ([(o, .inr (5, [.int 0, .int 0, .int 0, .int 0, .int 0, .int 0, .int 0, .ref q1, .ref q2, .null, .null, .null, .null, .null, .null])), (q1, mm_li cI (mm_zs 32)), (q2, mm_li cI (mm_zs 32)), (q3, mm_li cI (mm_zs 32))] : va_W) := hD
  refine mm_putf C0 hin hP hD hS iw_X5 tyX5 tyX5_ok nmX5 0 rfl rfl 9 (by decide) fl_X5_18 rfl rfl rfl rfl (Nat.le_of_ble_eq_true rfl) dX5_init_25 (w2 := ([(o, .inr (5, [.int 0, .int 0, .int 0, .int 0, .int 0, .int 0, .int 0, .ref q1, .ref q2, .ref q3, .null, .null, .null, .null, .null])), (q1, mm_li cI (mm_zs 32)), (q2, mm_li cI (mm_zs 32)), (q3, mm_li cI (mm_zs 32))] : va_W)) rfl (fun H locs hP hD hS => ?_)
  refine lv_aload_n hx hb dX5_init_28 rfl (lv_at hl 0 rfl) ?_
  refine lv_bipush (v := 32) hx hb dX5_init_29 (by decide) ?_
  refine mm_newi (N := 32) C0 hP hD hA hS (by decide) (by decide) (by decide) (Nat.le_of_ble_eq_true rfl) (Nat.le_of_ble_eq_true rfl) dX5_init_31 (fun q4 H hP hD hS => ?_)
  have hP : va_P D mm_cl ([(o, .inr (5, [.int 0, .int 0, .int 0, .int 0, .int 0, .int 0, .int 0, .ref q1, .ref q2, .ref q3, .null, .null, .null, .null, .null])), (q1, mm_li cI (mm_zs 32)), (q2, mm_li cI (mm_zs 32)), (q3, mm_li cI (mm_zs 32)), (q4, mm_li cI (mm_zs 32))] : va_W) H := hP
  have hD : va_D A ([(o, .inr (5, [.int 0, .int 0, .int 0, .int 0, .int 0, .int 0, .int 0, .ref q1, .ref q2, .ref q3, .null, .null, .null, .null, .null])), (q1, mm_li cI (mm_zs 32)), (q2, mm_li cI (mm_zs 32)), (q3, mm_li cI (mm_zs 32)), (q4, mm_li cI (mm_zs 32))] : va_W) := hD
  refine mm_putf C0 hin hP hD hS iw_X5 tyX5 tyX5_ok nmX5 0 rfl rfl 10 (by decide) fl_X5_21 rfl rfl rfl rfl (Nat.le_of_ble_eq_true rfl) dX5_init_33 (w2 := ([(o, .inr (5, [.int 0, .int 0, .int 0, .int 0, .int 0, .int 0, .int 0, .ref q1, .ref q2, .ref q3, .ref q4, .null, .null, .null, .null])), (q1, mm_li cI (mm_zs 32)), (q2, mm_li cI (mm_zs 32)), (q3, mm_li cI (mm_zs 32)), (q4, mm_li cI (mm_zs 32))] : va_W)) rfl (fun H locs hP hD hS => ?_)
  refine lv_aload_n hx hb dX5_init_36 rfl (lv_at hl 0 rfl) ?_
  refine lv_bipush (v := 64) hx hb dX5_init_37 (by decide) ?_
  refine mm_newi (N := 64) C0 hP hD hA hS (by decide) (by decide) (by decide) (Nat.le_of_ble_eq_true rfl) (Nat.le_of_ble_eq_true rfl) dX5_init_39 (fun q5 H hP hD hS => ?_)
  have hP : va_P D mm_cl ([(o, .inr (5, [.int 0, .int 0, .int 0, .int 0, .int 0, .int 0, .int 0, .ref q1, .ref q2, .ref q3, .ref q4, .null, .null, .null, .null])), (q1, mm_li cI (mm_zs 32)), (q2, mm_li cI (mm_zs 32)), (q3, mm_li cI (mm_zs 32)), (q4, mm_li cI (mm_zs 32)), (q5, mm_li cI (mm_zs 64))] : va_W) H := hP
  have hD : va_D A ([(o, .inr (5, [.int 0, .int 0, .int 0, .int 0, .int 0, .int 0, .int 0, .ref q1, .ref q2, .ref q3, .ref q4, .null, .null, .null, .null])), (q1, mm_li cI (mm_zs 32)), (q2, mm_li cI (mm_zs 32)), (q3, mm_li cI (mm_zs 32)), (q4, mm_li cI (mm_zs 32)), (q5, mm_li cI (mm_zs 64))] : va_W) := hD
  refine mm_putf C0 hin hP hD hS iw_X5 tyX5 tyX5_ok nmX5 0 rfl rfl 11 (by decide) fl_X5_24 rfl rfl rfl rfl (Nat.le_of_ble_eq_true rfl) dX5_init_41 (w2 := ([(o, .inr (5, [.int 0, .int 0, .int 0, .int 0, .int 0, .int 0, .int 0, .ref q1, .ref q2, .ref q3, .ref q4, .ref q5, .null, .null, .null])), (q1, mm_li cI (mm_zs 32)), (q2, mm_li cI (mm_zs 32)), (q3, mm_li cI (mm_zs 32)), (q4, mm_li cI (mm_zs 32)), (q5, mm_li cI (mm_zs 64))] : va_W)) rfl (fun H locs hP hD hS => ?_)
  refine lv_aload_n hx hb dX5_init_44 rfl (lv_at hl 0 rfl) ?_
  refine lv_bipush (v := 64) hx hb dX5_init_45 (by decide) ?_
  refine mm_newi (N := 64) C0 hP hD hA hS (by decide) (by decide) (by decide) (Nat.le_of_ble_eq_true rfl) (Nat.le_of_ble_eq_true rfl) dX5_init_47 (fun q6 H hP hD hS => ?_)
  have hP : va_P D mm_cl ([(o, .inr (5, [.int 0, .int 0, .int 0, .int 0, .int 0, .int 0, .int 0, .ref q1, .ref q2, .ref q3, .ref q4, .ref q5, .null, .null, .null])), (q1, mm_li cI (mm_zs 32)), (q2, mm_li cI (mm_zs 32)), (q3, mm_li cI (mm_zs 32)), (q4, mm_li cI (mm_zs 32)), (q5, mm_li cI (mm_zs 64)), (q6, mm_li cI (mm_zs 64))] : va_W) H := hP
  have hD : va_D A ([(o, .inr (5, [.int 0, .int 0, .int 0, .int 0, .int 0, .int 0, .int 0, .ref q1, .ref q2, .ref q3, .ref q4, .ref q5, .null, .null, .null])), (q1, mm_li cI (mm_zs 32)), (q2, mm_li cI (mm_zs 32)), (q3, mm_li cI (mm_zs 32)), (q4, mm_li cI (mm_zs 32)), (q5, mm_li cI (mm_zs 64)), (q6, mm_li cI (mm_zs 64))] : va_W) := hD
  refine mm_putf C0 hin hP hD hS iw_X5 tyX5 tyX5_ok nmX5 0 rfl rfl 12 (by decide) fl_X5_27 rfl rfl rfl rfl (Nat.le_of_ble_eq_true rfl) dX5_init_49 (w2 := ([(o, .inr (5, [.int 0, .int 0, .int 0, .int 0, .int 0, .int 0, .int 0, .ref q1, .ref q2, .ref q3, .ref q4, .ref q5, .ref q6, .null, .null])), (q1, mm_li cI (mm_zs 32)), (q2, mm_li cI (mm_zs 32)), (q3, mm_li cI (mm_zs 32)), (q4, mm_li cI (mm_zs 32)), (q5, mm_li cI (mm_zs 64)), (q6, mm_li cI (mm_zs 64))] : va_W)) rfl (fun H locs hP hD hS => ?_)
  refine lv_aload_n hx hb dX5_init_52 rfl (lv_at hl 0 rfl) ?_
  refine lv_bipush (v := 64) hx hb dX5_init_53 (by decide) ?_
  refine mm_newi (N := 64) C0 hP hD hA hS (by decide) (by decide) (by decide) (Nat.le_of_ble_eq_true rfl) (Nat.le_of_ble_eq_true rfl) dX5_init_55 (fun q7 H hP hD hS => ?_)
  have hP : va_P D mm_cl ([(o, .inr (5, [.int 0, .int 0, .int 0, .int 0, .int 0, .int 0, .int 0, .ref q1, .ref q2, .ref q3, .ref q4, .ref q5, .ref q6, .null, .null])), (q1, mm_li cI (mm_zs 32)), (q2, mm_li cI (mm_zs 32)), (q3, mm_li cI (mm_zs 32)), (q4, mm_li cI (mm_zs 32)), (q5, mm_li cI (mm_zs 64)), (q6, mm_li cI (mm_zs 64)), (q7, mm_li cI (mm_zs 64))] : va_W) H := hP
  have hD : va_D A ([(o, .inr (5, [.int 0, .int 0, .int 0, .int 0, .int 0, .int 0, .int 0, .ref q1, .ref q2, .ref q3, .ref q4, .ref q5, .ref q6, .null, .null])), (q1, mm_li cI (mm_zs 32)), (q2, mm_li cI (mm_zs 32)), (q3, mm_li cI (mm_zs 32)), (q4, mm_li cI (mm_zs 32)), (q5, mm_li cI (mm_zs 64)), (q6, mm_li cI (mm_zs 64)), (q7, mm_li cI (mm_zs 64))] : va_W) := hD
  refine mm_putf C0 hin hP hD hS iw_X5 tyX5 tyX5_ok nmX5 0 rfl rfl 13 (by decide) fl_X5_30 rfl rfl rfl rfl (Nat.le_of_ble_eq_true rfl) dX5_init_57 (w2 := ([(o, .inr (5, [.int 0, .int 0, .int 0, .int 0, .int 0, .int 0, .int 0, .ref q1, .ref q2, .ref q3, .ref q4, .ref q5, .ref q6, .ref q7, .null])), (q1, mm_li cI (mm_zs 32)), (q2, mm_li cI (mm_zs 32)), (q3, mm_li cI (mm_zs 32)), (q4, mm_li cI (mm_zs 32)), (q5, mm_li cI (mm_zs 64)), (q6, mm_li cI (mm_zs 64)), (q7, mm_li cI (mm_zs 64))] : va_W)) rfl (fun H locs hP hD hS => ?_)
  refine lv_aload_n hx hb dX5_init_60 rfl (lv_at hl 0 rfl) ?_
  refine lv_bipush (v := 32) hx hb dX5_init_61 (by decide) ?_
  refine mm_newi (N := 32) C0 hP hD hA hS (by decide) (by decide) (by decide) (Nat.le_of_ble_eq_true rfl) (Nat.le_of_ble_eq_true rfl) dX5_init_63 (fun q8 H hP hD hS => ?_)
  have hP : va_P D mm_cl ([(o, .inr (5, [.int 0, .int 0, .int 0, .int 0, .int 0, .int 0, .int 0, .ref q1, .ref q2, .ref q3, .ref q4, .ref q5, .ref q6, .ref q7, .null])), (q1, mm_li cI (mm_zs 32)), (q2, mm_li cI (mm_zs 32)), (q3, mm_li cI (mm_zs 32)), (q4, mm_li cI (mm_zs 32)), (q5, mm_li cI (mm_zs 64)), (q6, mm_li cI (mm_zs 64)), (q7, mm_li cI (mm_zs 64)), (q8, mm_li cI (mm_zs 32))] : va_W) H := hP
  have hD : va_D A ([(o, .inr (5, [.int 0, .int 0, .int 0, .int 0, .int 0, .int 0, .int 0, .ref q1, .ref q2, .ref q3, .ref q4, .ref q5, .ref q6, .ref q7, .null])), (q1, mm_li cI (mm_zs 32)), (q2, mm_li cI (mm_zs 32)), (q3, mm_li cI (mm_zs 32)), (q4, mm_li cI (mm_zs 32)), (q5, mm_li cI (mm_zs 64)), (q6, mm_li cI (mm_zs 64)), (q7, mm_li cI (mm_zs 64)), (q8, mm_li cI (mm_zs 32))] : va_W) := hD
  refine mm_putf C0 hin hP hD hS iw_X5 tyX5 tyX5_ok nmX5 0 rfl rfl 14 (by decide) fl_X5_33 rfl rfl rfl rfl (Nat.le_of_ble_eq_true rfl) dX5_init_65 (w2 := ([(o, .inr (5, [.int 0, .int 0, .int 0, .int 0, .int 0, .int 0, .int 0, .ref q1, .ref q2, .ref q3, .ref q4, .ref q5, .ref q6, .ref q7, .ref q8])), (q1, mm_li cI (mm_zs 32)), (q2, mm_li cI (mm_zs 32)), (q3, mm_li cI (mm_zs 32)), (q4, mm_li cI (mm_zs 32)), (q5, mm_li cI (mm_zs 64)), (q6, mm_li cI (mm_zs 64)), (q7, mm_li cI (mm_zs 64)), (q8, mm_li cI (mm_zs 32))] : va_W)) rfl (fun H locs hP hD hS => ?_)
  refine lv_aload_n hx hb dX5_init_68 rfl (lv_at hl 0 rfl) ?_
  refine lv_iconst (v := 2) hx hb dX5_init_69 (by decide) ?_
  refine lv_iconst (v := 4) hx hb dX5_init_70 (by decide) ?_
  have hc : fX5_renew 70 2 4 0 0 0 0 0 0 0 (mm_zs 32) (mm_zs 32) (mm_zs 32) (mm_zs 32) (mm_zs 64) (mm_zs 64) = some (2, 4, 2, 4, 0, 0, 0, z5_rowOf, z5_colOf, (mm_zs 32), (mm_zs 32), (mm_zs 64), (mm_zs 64)) := mm_chk13 (by decide +kernel)
  refine mm_callVn (q0 := 0) (ci := 5) (rest := []) (d := 3) C0 lk_X5_36 (ctX5_renew (a := (fun k => [o, q1, q2, q3, q4, q5, q6, q7, q8].getD k 0)) (d := 2) (by decide) hc) (by decide) rfl hl.1 rfl (mm_cat rfl) dX5_init_71 hP hD hA hS rfl rfl (Nat.le_of_ble_eq_true rfl) (Nat.le_of_ble_eq_true rfl) (fun H locs hP hD hS => ?_)
  refine W.eq (g2 := F0 m 74 ls []) rfl ?_
  exact mm_nret (fun k => [o, q1, q2, q3, q4, q5, q6, q7, q8].getD k 0) rfl [0, 1, 2, 3, 4, 5, 6, 7, 8] (by decide) rfl C0 hP hD hS dX5_init_74 (Nat.le_of_ble_eq_true rfl) (Nat.le_of_ble_eq_true rfl)
theorem dX3_init_0 : decode cX3_init 0 = .ok (.aload_n 0, 1) := by decide +kernel
theorem dX3_init_1 : decode cX3_init 1 = .ok (.invokespecial 3, 3) := by decide +kernel
theorem dX3_init_4 : decode cX3_init 4 = .ok (.aload_n 0, 1) := by decide +kernel
theorem dX3_init_5 : decode cX3_init 5 = .ok (.new 9, 3) := by decide +kernel
theorem dX3_init_8 : decode cX3_init 8 = .ok (.dup, 1) := by decide +kernel
theorem dX3_init_9 : decode cX3_init 9 = .ok (.invokespecial 11, 3) := by decide +kernel
theorem dX3_init_12 : decode cX3_init 12 = .ok (.putfield 12, 3) := by decide +kernel
theorem dX3_init_15 : decode cX3_init 15 = .ok (.aload_n 0, 1) := by decide +kernel
theorem dX3_init_16 : decode cX3_init 16 = .ok (.bipush 12, 2) := by decide +kernel
theorem dX3_init_18 : decode cX3_init 18 = .ok (.newarray .int, 2) := by decide +kernel
theorem dX3_init_20 : decode cX3_init 20 = .ok (.putfield 18, 3) := by decide +kernel
theorem dX3_init_23 : decode cX3_init 23 = .ok (.aload_n 0, 1) := by decide +kernel
theorem dX3_init_24 : decode cX3_init 24 = .ok (.bipush 12, 2) := by decide +kernel
theorem dX3_init_26 : decode cX3_init 26 = .ok (.newarray .int, 2) := by decide +kernel
theorem dX3_init_28 : decode cX3_init 28 = .ok (.putfield 22, 3) := by decide +kernel
theorem dX3_init_31 : decode cX3_init 31 = .ok (.return_, 1) := by decide +kernel
abbrev wn_X3 (cI cL cS cH : ClassId) (a : Nat → Nat) : va_W := wd_X3 cI cL cS cH a 0 2 4 2 4 0 0 0 z5_rowOf z5_colOf (mm_zs 32) (mm_zs 32) (mm_zs 64) (mm_zs 64) (mm_zs 64) (mm_zs 32) (mm_zs 12) (mm_zs 12)
set_option maxHeartbeats 8000000 in
set_option maxRecDepth 100000 in
theorem cnX3 {l : Launch} {D : va_G} {cI cL cS cH : ClassId} {o : Nat} : mm_Cn l yX3_init cX3_init 1 4 11 391 D (mm_T cI cL cS cH) o [(o, .inr (3, [.int 0, .null, .null, .null]))] (wn_X3 cI cL cS cH) := by
  refine mm_ofn (by decide) rfl (by decide) ?_
  intro p e s m args below meth c A H locs ls C0 hin hO1 hO2 hP hD hA hS hl
  have C0 : mm_Cx p s m args meth c RX3 cX3_init 1 none D (mm_T cI cL cS cH) A := C0
  obtain ⟨hx, hb, hml, hown, hts, hr, hlocks, hK, hSt⟩ := id C0
  refine lv_aload_n hx hb dX3_init_0 rfl (lv_at hl 0 rfl) ?_
  refine mm_obj C0 ol_X3_3 hl.1 (by decide) dX3_init_1 ?_
  refine W.eq (g2 := F0 m 4 ls []) rfl ?_
  refine lv_aload_n hx hb dX3_init_4 rfl (lv_at hl 0 rfl) ?_
  refine mm_newo (ci := 5) (fs := [.int 0, .int 0, .int 0, .int 0, .int 0, .int 0, .int 0, .null, .null, .null, .null, .null, .null, .null, .null]) C0 hP hD hA hS iw_X5 tyX5 tyX5_ok kl_X3_9 kn_X5 ki_X5 rfl (by decide) (Nat.le_of_ble_eq_true rfl) (Nat.le_of_ble_eq_true rfl) dX3_init_5 (fun q1 H hP hD hS => ?_)
  refine lv_dup hx hb dX3_init_8 rfl ?_
  refine mm_callI2 (d := 4) (rest := [.ref q1, .ref o]) C0 hO1 hO2 li_X3_11 (cnX5 (o := q1)) (by decide) rfl rfl hl.1 rfl (mm_cat rfl) dX3_init_9 (Nat.le_of_ble_eq_true rfl) (Nat.le_of_ble_eq_true rfl) hP hD hA hS (fun b2 H locs hb0 hPn hDn hSn => ?_)
  clear hP hD hS
  subst hb0
  have hP := hPn
  have hD := hDn
  have hS := hSn
  have hP : va_P D mm_cl ([(o, .inr (3, [.int 0, .null, .null, .null]))] ++ wn_X5 cI cL cS cH b2) H := hP
  have hD : va_D A ([(o, .inr (3, [.int 0, .null, .null, .null]))] ++ wn_X5 cI cL cS cH b2) := hD
  refine mm_putf C0 hin hP hD hS iw_X3 tyX3 tyX3_ok nmX3 0 rfl rfl 1 (by decide) fl_X3_12 rfl rfl rfl rfl (Nat.le_of_ble_eq_true rfl) dX3_init_12 (w2 := ([(o, .inr (3, [.int 0, .ref (b2 0), .null, .null]))] ++ wn_X5 cI cL cS cH b2)) rfl (fun H locs hP hD hS => ?_)
  refine lv_aload_n hx hb dX3_init_15 rfl (lv_at hl 0 rfl) ?_
  refine lv_bipush (v := 12) hx hb dX3_init_16 (by decide) ?_
  refine mm_newi (N := 12) C0 hP hD hA hS (by decide) (by decide) (by decide) (Nat.le_of_ble_eq_true rfl) (Nat.le_of_ble_eq_true rfl) dX3_init_18 (fun q3 H hP hD hS => ?_)
  have hP : va_P D mm_cl ([(o, .inr (3, [.int 0, .ref (b2 0), .null, .null]))] ++ wn_X5 cI cL cS cH b2 ++ [(q3, mm_li cI (mm_zs 12))]) H := hP
  have hD : va_D A ([(o, .inr (3, [.int 0, .ref (b2 0), .null, .null]))] ++ wn_X5 cI cL cS cH b2 ++ [(q3, mm_li cI (mm_zs 12))]) := hD
  refine mm_putf C0 hin hP hD hS iw_X3 tyX3 tyX3_ok nmX3 0 rfl rfl 2 (by decide) fl_X3_18 rfl rfl rfl rfl (Nat.le_of_ble_eq_true rfl) dX3_init_20 (w2 := ([(o, .inr (3, [.int 0, .ref (b2 0), .ref q3, .null]))] ++ wn_X5 cI cL cS cH b2 ++ [(q3, mm_li cI (mm_zs 12))])) rfl (fun H locs hP hD hS => ?_)
  refine lv_aload_n hx hb dX3_init_23 rfl (lv_at hl 0 rfl) ?_
  refine lv_bipush (v := 12) hx hb dX3_init_24 (by decide) ?_
  refine mm_newi (N := 12) C0 hP hD hA hS (by decide) (by decide) (by decide) (Nat.le_of_ble_eq_true rfl) (Nat.le_of_ble_eq_true rfl) dX3_init_26 (fun q4 H hP hD hS => ?_)
  have hP : va_P D mm_cl ([(o, .inr (3, [.int 0, .ref (b2 0), .ref q3, .null]))] ++ wn_X5 cI cL cS cH b2 ++ [(q3, mm_li cI (mm_zs 12)), (q4, mm_li cI (mm_zs 12))]) H := hP
  have hD : va_D A ([(o, .inr (3, [.int 0, .ref (b2 0), .ref q3, .null]))] ++ wn_X5 cI cL cS cH b2 ++ [(q3, mm_li cI (mm_zs 12)), (q4, mm_li cI (mm_zs 12))]) := hD
  refine mm_putf C0 hin hP hD hS iw_X3 tyX3 tyX3_ok nmX3 0 rfl rfl 3 (by decide) fl_X3_22 rfl rfl rfl rfl (Nat.le_of_ble_eq_true rfl) dX3_init_28 (w2 := ([(o, .inr (3, [.int 0, .ref (b2 0), .ref q3, .ref q4]))] ++ wn_X5 cI cL cS cH b2 ++ [(q3, mm_li cI (mm_zs 12)), (q4, mm_li cI (mm_zs 12))])) rfl (fun H locs hP hD hS => ?_)
  exact mm_nret (fun k => [o, b2 0, b2 1, b2 2, b2 3, b2 4, b2 5, b2 6, b2 7, b2 8, q3, q4].getD k 0) rfl [0, 1, 2, 3, 4, 5, 6, 7, 8, 9, 10, 11] (by decide) rfl C0 hP hD hS dX3_init_31 (Nat.le_of_ble_eq_true rfl) (Nat.le_of_ble_eq_true rfl)
theorem dX4_init_0 : decode cX4_init 0 = .ok (.aload_n 0, 1) := by decide +kernel
theorem dX4_init_1 : decode cX4_init 1 = .ok (.invokespecial 3, 3) := by decide +kernel
theorem dX4_init_4 : decode cX4_init 4 = .ok (.aload_n 0, 1) := by decide +kernel
theorem dX4_init_5 : decode cX4_init 5 = .ok (.iconst 4, 1) := by decide +kernel
theorem dX4_init_6 : decode cX4_init 6 = .ok (.anewarray 9, 3) := by decide +kernel
theorem dX4_init_9 : decode cX4_init 9 = .ok (.putfield 11, 3) := by decide +kernel
theorem dX4_init_12 : decode cX4_init 12 = .ok (.aload_n 0, 1) := by decide +kernel
theorem dX4_init_13 : decode cX4_init 13 = .ok (.iconst 3, 1) := by decide +kernel
theorem dX4_init_14 : decode cX4_init 14 = .ok (.newarray .int, 2) := by decide +kernel
theorem dX4_init_16 : decode cX4_init 16 = .ok (.putfield 17, 3) := by decide +kernel
theorem dX4_init_19 : decode cX4_init 19 = .ok (.aload_n 0, 1) := by decide +kernel
theorem dX4_init_20 : decode cX4_init 20 = .ok (.iconst 3, 1) := by decide +kernel
theorem dX4_init_21 : decode cX4_init 21 = .ok (.newarray .int, 2) := by decide +kernel
theorem dX4_init_23 : decode cX4_init 23 = .ok (.putfield 21, 3) := by decide +kernel
theorem dX4_init_26 : decode cX4_init 26 = .ok (.iconst 0, 1) := by decide +kernel
theorem dX4_init_27 : decode cX4_init 27 = .ok (.istore_n 1, 1) := by decide +kernel
theorem dX4_init_28 : decode cX4_init 28 = .ok (.iload_n 1, 1) := by decide +kernel
theorem dX4_init_29 : decode cX4_init 29 = .ok (.iconst 3, 1) := by decide +kernel
theorem dX4_init_30 : decode cX4_init 30 = .ok (.if_icmp .gt 22, 3) := by decide +kernel
theorem dX4_init_33 : decode cX4_init 33 = .ok (.aload_n 0, 1) := by decide +kernel
theorem dX4_init_34 : decode cX4_init 34 = .ok (.getfield 11, 3) := by decide +kernel
theorem dX4_init_37 : decode cX4_init 37 = .ok (.iload_n 1, 1) := by decide +kernel
theorem dX4_init_38 : decode cX4_init 38 = .ok (.new 9, 3) := by decide +kernel
theorem dX4_init_41 : decode cX4_init 41 = .ok (.dup, 1) := by decide +kernel
theorem dX4_init_42 : decode cX4_init 42 = .ok (.invokespecial 24, 3) := by decide +kernel
theorem dX4_init_45 : decode cX4_init 45 = .ok (.aastore, 1) := by decide +kernel
theorem dX4_init_46 : decode cX4_init 46 = .ok (.iinc 1 1, 3) := by decide +kernel
theorem dX4_init_49 : decode cX4_init 49 = .ok (.goto (-21), 3) := by decide +kernel
theorem dX4_init_52 : decode cX4_init 52 = .ok (.return_, 1) := by decide +kernel
abbrev wn_X4 (cI cL cS cH : ClassId) (a : Nat → Nat) : va_W := wd_X4 cI cL cS cH a false 0 0 0 0 2 4 2 4 0 0 0 z5_rowOf z5_colOf (mm_zs 32) (mm_zs 32) (mm_zs 64) (mm_zs 64) (mm_zs 64) (mm_zs 32) 2 4 2 4 0 0 0 z5_rowOf z5_colOf (mm_zs 32) (mm_zs 32) (mm_zs 64) (mm_zs 64) (mm_zs 64) (mm_zs 32) 2 4 2 4 0 0 0 z5_rowOf z5_colOf (mm_zs 32) (mm_zs 32) (mm_zs 64) (mm_zs 64) (mm_zs 64) (mm_zs 32) 2 4 2 4 0 0 0 z5_rowOf z5_colOf (mm_zs 32) (mm_zs 32) (mm_zs 64) (mm_zs 64) (mm_zs 64) (mm_zs 32) (mm_zs 3) (mm_zs 3)
set_option maxHeartbeats 8000000 in
set_option maxRecDepth 100000 in
theorem cnX4 {l : Launch} {D : va_G} {cI cL cS cH : ClassId} {o : Nat} : mm_Cn l yX4_init cX4_init 2 4 39 1478 D (mm_T cI cL cS cH) o [(o, .inr (4, [.int 0, .int 0, .int 0, .int 0, .null, .null, .null, .int 0]))] (wn_X4 cI cL cS cH) := by
  refine mm_ofn (by decide) rfl (by decide) ?_
  intro p e s m args below meth c A H locs ls C0 hin hO1 hO2 hP hD hA hS hl
  have C0 : mm_Cx p s m args meth c RX4 cX4_init 2 none D (mm_T cI cL cS cH) A := C0
  obtain ⟨hx, hb, hml, hown, hts, hr, hlocks, hK, hSt⟩ := id C0
  refine lv_aload_n hx hb dX4_init_0 rfl (lv_at hl 0 rfl) ?_
  refine mm_obj C0 ol_X4_3 hl.1 (by decide) dX4_init_1 ?_
  refine W.eq (g2 := F0 m 4 ls []) rfl ?_
  refine lv_aload_n hx hb dX4_init_4 rfl (lv_at hl 0 rfl) ?_
  refine lv_iconst (v := 4) hx hb dX4_init_5 (by decide) ?_
  refine mm_newq (N := 4) 2 rfl C0 hO1 kl_X4_9 hP hD hA hS (by decide) (by decide) (by decide) (Nat.le_of_ble_eq_true rfl) (Nat.le_of_ble_eq_true rfl) dX4_init_6 (fun q1 H hP hD hS => ?_)
  have hP : va_P D mm_cl ([(o, .inr (4, [.int 0, .int 0, .int 0, .int 0, .null, .null, .null, .int 0])), (q1, mm_lo cS [none, none, none, none])] : va_W) H := hP
  have hD : va_D A ([(o, .inr (4, [.int 0, .int 0, .int 0, .int 0, .null, .null, .null, .int 0])), (q1, mm_lo cS [none, none, none, none])] : va_W) := hD
  refine mm_putf C0 hin hP hD hS iw_X4 tyX4 tyX4_ok nmX4 0 rfl rfl 4 (by decide) fl_X4_11 rfl rfl rfl rfl (Nat.le_of_ble_eq_true rfl) dX4_init_9 (w2 := ([(o, .inr (4, [.int 0, .int 0, .int 0, .int 0, .ref q1, .null, .null, .int 0])), (q1, mm_lo cS [none, none, none, none])] : va_W)) rfl (fun H locs hP hD hS => ?_)
  refine lv_aload_n hx hb dX4_init_12 rfl (lv_at hl 0 rfl) ?_
  refine lv_iconst (v := 3) hx hb dX4_init_13 (by decide) ?_
  refine mm_newi (N := 3) C0 hP hD hA hS (by decide) (by decide) (by decide) (Nat.le_of_ble_eq_true rfl) (Nat.le_of_ble_eq_true rfl) dX4_init_14 (fun q2 H hP hD hS => ?_)
  have hP : va_P D mm_cl ([(o, .inr (4, [.int 0, .int 0, .int 0, .int 0, .ref q1, .null, .null, .int 0])), (q1, mm_lo cS [none, none, none, none]), (q2, mm_li cI (mm_zs 3))] : va_W) H := hP
  have hD : va_D A ([(o, .inr (4, [.int 0, .int 0, .int 0, .int 0, .ref q1, .null, .null, .int 0])), (q1, mm_lo cS [none, none, none, none]), (q2, mm_li cI (mm_zs 3))] : va_W) := hD
  refine mm_putf C0 hin hP hD hS iw_X4 tyX4 tyX4_ok nmX4 0 rfl rfl 5 (by decide) fl_X4_17 rfl rfl rfl rfl (Nat.le_of_ble_eq_true rfl) dX4_init_16 (w2 := ([(o, .inr (4, [.int 0, .int 0, .int 0, .int 0, .ref q1, .ref q2, .null, .int 0])), (q1, mm_lo cS [none, none, none, none]), (q2, mm_li cI (mm_zs 3))] : va_W)) rfl (fun H locs hP hD hS => ?_)
  refine lv_aload_n hx hb dX4_init_19 rfl (lv_at hl 0 rfl) ?_
  refine lv_iconst (v := 3) hx hb dX4_init_20 (by decide) ?_
  refine mm_newi (N := 3) C0 hP hD hA hS (by decide) (by decide) (by decide) (Nat.le_of_ble_eq_true rfl) (Nat.le_of_ble_eq_true rfl) dX4_init_21 (fun q3 H hP hD hS => ?_)
  have hP : va_P D mm_cl ([(o, .inr (4, [.int 0, .int 0, .int 0, .int 0, .ref q1, .ref q2, .null, .int 0])), (q1, mm_lo cS [none, none, none, none]), (q2, mm_li cI (mm_zs 3)), (q3, mm_li cI (mm_zs 3))] : va_W) H := hP
  have hD : va_D A ([(o, .inr (4, [.int 0, .int 0, .int 0, .int 0, .ref q1, .ref q2, .null, .int 0])), (q1, mm_lo cS [none, none, none, none]), (q2, mm_li cI (mm_zs 3)), (q3, mm_li cI (mm_zs 3))] : va_W) := hD
  refine mm_putf C0 hin hP hD hS iw_X4 tyX4 tyX4_ok nmX4 0 rfl rfl 6 (by decide) fl_X4_21 rfl rfl rfl rfl (Nat.le_of_ble_eq_true rfl) dX4_init_23 (w2 := ([(o, .inr (4, [.int 0, .int 0, .int 0, .int 0, .ref q1, .ref q2, .ref q3, .int 0])), (q1, mm_lo cS [none, none, none, none]), (q2, mm_li cI (mm_zs 3)), (q3, mm_li cI (mm_zs 3))] : va_W)) rfl (fun H locs hP hD hS => ?_)
  refine lv_iconst (v := 0) hx hb dX4_init_26 (by decide) ?_
  refine lv_istore_n (lv' := [(1, .int 0), (0, .ref o)]) hx hb dX4_init_27 rfl hl (by decide) rfl (fun ls hl => ?_)
  refine lv_iload_n hx hb dX4_init_28 rfl (lv_at hl 0 rfl) ?_
  refine lv_iconst (v := 3) hx hb dX4_init_29 (by decide) ?_
  refine lv_icmp_gt (tgt := 52) hx hb dX4_init_30 (by decide) (fun c9 => absurd c9 (by decide)) (fun _ => ?_)
  refine lv_aload_n hx hb dX4_init_33 rfl (lv_at hl 1 rfl) ?_
  refine mm_get C0 hP iw_X4 0 rfl rfl 4 (by decide) fl_X4_11 rfl dX4_init_34 ?_
  refine lv_iload_n hx hb dX4_init_37 rfl (lv_at hl 0 rfl) ?_
  refine mm_newo (ci := 5) (fs := [.int 0, .int 0, .int 0, .int 0, .int 0, .int 0, .int 0, .null, .null, .null, .null, .null, .null, .null, .null]) C0 hP hD hA hS iw_X5 tyX5 tyX5_ok kl_X4_9 kn_X5 ki_X5 rfl (by decide) (Nat.le_of_ble_eq_true rfl) (Nat.le_of_ble_eq_true rfl) dX4_init_38 (fun q4 H hP hD hS => ?_)
  refine lv_dup hx hb dX4_init_41 rfl ?_
  refine mm_callI2 (d := 4) (rest := [.ref q4, .int 0, .ref q1]) C0 hO1 hO2 li_X4_24 (cnX5 (o := q4)) (by decide) rfl rfl hl.1 rfl (mm_cat rfl) dX4_init_42 (Nat.le_of_ble_eq_true rfl) (Nat.le_of_ble_eq_true rfl) hP hD hA hS (fun b5 H locs hb0 hPn hDn hSn => ?_)
  clear hP hD hS
  subst hb0
  have hP := hPn
  have hD := hDn
  have hS := hSn
  have hP : va_P D mm_cl ([(o, .inr (4, [.int 0, .int 0, .int 0, .int 0, .ref q1, .ref q2, .ref q3, .int 0])), (q1, mm_lo cS [none, none, none, none]), (q2, mm_li cI (mm_zs 3)), (q3, mm_li cI (mm_zs 3))] ++ wn_X5 cI cL cS cH b5) H := hP
  have hD : va_D A ([(o, .inr (4, [.int 0, .int 0, .int 0, .int 0, .ref q1, .ref q2, .ref q3, .int 0])), (q1, mm_lo cS [none, none, none, none]), (q2, mm_li cI (mm_zs 3)), (q3, mm_li cI (mm_zs 3))] ++ wn_X5 cI cL cS cH b5) := hD
  refine mm_astq (ci := 5) 2 rfl C0 hP hD hS 1 4 rfl rfl rfl rfl dX4_init_45 (w2 := ([(o, .inr (4, [.int 0, .int 0, .int 0, .int 0, .ref q1, .ref q2, .ref q3, .int 0])), (q1, mm_lo cS [some (b5 0), none, none, none]), (q2, mm_li cI (mm_zs 3)), (q3, mm_li cI (mm_zs 3))] ++ wn_X5 cI cL cS cH b5)) rfl (fun H locs hP hD hS => ?_)
  refine lv_iinc (v := 1) (lv' := [(1, .int 1), (0, .ref o)]) hx hb dX4_init_46 hl (k := 0) rfl (by decide) (by decide) rfl (fun ls hl => ?_)
  refine lv_goto (tgt := 28) hx hb dX4_init_49 (by decide) ?_
  refine lv_iload_n hx hb dX4_init_28 rfl (lv_at hl 0 rfl) ?_
  refine lv_iconst (v := 3) hx hb dX4_init_29 (by decide) ?_
  refine lv_icmp_gt (tgt := 52) hx hb dX4_init_30 (by decide) (fun c9 => absurd c9 (by decide)) (fun _ => ?_)
  refine lv_aload_n hx hb dX4_init_33 rfl (lv_at hl 1 rfl) ?_
  refine mm_get C0 hP iw_X4 0 rfl rfl 4 (by decide) fl_X4_11 rfl dX4_init_34 ?_
  refine lv_iload_n hx hb dX4_init_37 rfl (lv_at hl 0 rfl) ?_
  refine mm_newo (ci := 5) (fs := [.int 0, .int 0, .int 0, .int 0, .int 0, .int 0, .int 0, .null, .null, .null, .null, .null, .null, .null, .null]) C0 hP hD hA hS iw_X5 tyX5 tyX5_ok kl_X4_9 kn_X5 ki_X5 rfl (by decide) (Nat.le_of_ble_eq_true rfl) (Nat.le_of_ble_eq_true rfl) dX4_init_38 (fun q6 H hP hD hS => ?_)
  refine lv_dup hx hb dX4_init_41 rfl ?_
  refine mm_callI2 (d := 4) (rest := [.ref q6, .int 1, .ref q1]) C0 hO1 hO2 li_X4_24 (cnX5 (o := q6)) (by decide) rfl rfl hl.1 rfl (mm_cat rfl) dX4_init_42 (Nat.le_of_ble_eq_true rfl) (Nat.le_of_ble_eq_true rfl) hP hD hA hS (fun b7 H locs hb0 hPn hDn hSn => ?_)
  clear hP hD hS
  subst hb0
  have hP := hPn
  have hD := hDn
  have hS := hSn
  have hP : va_P D mm_cl ([(o, .inr (4, [.int 0, .int 0, .int 0, .int 0, .ref q1, .ref q2, .ref q3, .int 0])), (q1, mm_lo cS [some (b5 0), none, none, none]), (q2, mm_li cI (mm_zs 3)), (q3, mm_li cI (mm_zs 3))] ++ wn_X5 cI cL cS cH b5 ++ wn_X5 cI cL cS cH b7) H := hP
  have hD : va_D A ([(o, .inr (4, [.int 0, .int 0, .int 0, .int 0, .ref q1, .ref q2, .ref q3, .int 0])), (q1, mm_lo cS [some (b5 0), none, none, none]), (q2, mm_li cI (mm_zs 3)), (q3, mm_li cI (mm_zs 3))] ++ wn_X5 cI cL cS cH b5 ++ wn_X5 cI cL cS cH b7) := hD
  refine mm_astq (ci := 5) 2 rfl C0 hP hD hS 1 13 rfl rfl rfl rfl dX4_init_45 (w2 := ([(o, .inr (4, [.int 0, .int 0, .int 0, .int 0, .ref q1, .ref q2, .ref q3, .int 0])), (q1, mm_lo cS [some (b5 0), some (b7 0), none, none]), (q2, mm_li cI (mm_zs 3)), (q3, mm_li cI (mm_zs 3))] ++ wn_X5 cI cL cS cH b5 ++ wn_X5 cI cL cS cH b7)) rfl (fun H locs hP hD hS => ?_)
  refine lv_iinc (v := 2) (lv' := [(1, .int 2), (0, .ref o)]) hx hb dX4_init_46 hl (k := 0) rfl (by decide) (by decide) rfl (fun ls hl => ?_)
  refine lv_goto (tgt := 28) hx hb dX4_init_49 (by decide) ?_
  refine lv_iload_n hx hb dX4_init_28 rfl (lv_at hl 0 rfl) ?_
  refine lv_iconst (v := 3) hx hb dX4_init_29 (by decide) ?_
  refine lv_icmp_gt (tgt := 52) hx hb dX4_init_30 (by decide) (fun c9 => absurd c9 (by decide)) (fun _ => ?_)
  refine lv_aload_n hx hb dX4_init_33 rfl (lv_at hl 1 rfl) ?_
  refine mm_get C0 hP iw_X4 0 rfl rfl 4 (by decide) fl_X4_11 rfl dX4_init_34 ?_
  refine lv_iload_n hx hb dX4_init_37 rfl (lv_at hl 0 rfl) ?_
  refine mm_newo (ci := 5) (fs := [.int 0, .int 0, .int 0, .int 0, .int 0, .int 0, .int 0, .null, .null, .null, .null, .null, .null, .null, .null]) C0 hP hD hA hS iw_X5 tyX5 tyX5_ok kl_X4_9 kn_X5 ki_X5 rfl (by decide) (Nat.le_of_ble_eq_true rfl) (Nat.le_of_ble_eq_true rfl) dX4_init_38 (fun q8 H hP hD hS => ?_)
  refine lv_dup hx hb dX4_init_41 rfl ?_
  refine mm_callI2 (d := 4) (rest := [.ref q8, .int 2, .ref q1]) C0 hO1 hO2 li_X4_24 (cnX5 (o := q8)) (by decide) rfl rfl hl.1 rfl (mm_cat rfl) dX4_init_42 (Nat.le_of_ble_eq_true rfl) (Nat.le_of_ble_eq_true rfl) hP hD hA hS (fun b9 H locs hb0 hPn hDn hSn => ?_)
  clear hP hD hS
  subst hb0
  have hP := hPn
  have hD := hDn
  have hS := hSn
  have hP : va_P D mm_cl ([(o, .inr (4, [.int 0, .int 0, .int 0, .int 0, .ref q1, .ref q2, .ref q3, .int 0])), (q1, mm_lo cS [some (b5 0), some (b7 0), none, none]), (q2, mm_li cI (mm_zs 3)), (q3, mm_li cI (mm_zs 3))] ++ wn_X5 cI cL cS cH b5 ++ wn_X5 cI cL cS cH b7 ++ wn_X5 cI cL cS cH b9) H := hP
  have hD : va_D A ([(o, .inr (4, [.int 0, .int 0, .int 0, .int 0, .ref q1, .ref q2, .ref q3, .int 0])), (q1, mm_lo cS [some (b5 0), some (b7 0), none, none]), (q2, mm_li cI (mm_zs 3)), (q3, mm_li cI (mm_zs 3))] ++ wn_X5 cI cL cS cH b5 ++ wn_X5 cI cL cS cH b7 ++ wn_X5 cI cL cS cH b9) := hD
  refine mm_astq (ci := 5) 2 rfl C0 hP hD hS 1 22 rfl rfl rfl rfl dX4_init_45 (w2 := ([(o, .inr (4, [.int 0, .int 0, .int 0, .int 0, .ref q1, .ref q2, .ref q3, .int 0])), (q1, mm_lo cS [some (b5 0), some (b7 0), some (b9 0), none]), (q2, mm_li cI (mm_zs 3)), (q3, mm_li cI (mm_zs 3))] ++ wn_X5 cI cL cS cH b5 ++ wn_X5 cI cL cS cH b7 ++ wn_X5 cI cL cS cH b9)) rfl (fun H locs hP hD hS => ?_)
  refine lv_iinc (v := 3) (lv' := [(1, .int 3), (0, .ref o)]) hx hb dX4_init_46 hl (k := 0) rfl (by decide) (by decide) rfl (fun ls hl => ?_)
  refine lv_goto (tgt := 28) hx hb dX4_init_49 (by decide) ?_
  refine lv_iload_n hx hb dX4_init_28 rfl (lv_at hl 0 rfl) ?_
  refine lv_iconst (v := 3) hx hb dX4_init_29 (by decide) ?_
  refine lv_icmp_gt (tgt := 52) hx hb dX4_init_30 (by decide) (fun c9 => absurd c9 (by decide)) (fun _ => ?_)
  refine lv_aload_n hx hb dX4_init_33 rfl (lv_at hl 1 rfl) ?_
  refine mm_get C0 hP iw_X4 0 rfl rfl 4 (by decide) fl_X4_11 rfl dX4_init_34 ?_
  refine lv_iload_n hx hb dX4_init_37 rfl (lv_at hl 0 rfl) ?_
  refine mm_newo (ci := 5) (fs := [.int 0, .int 0, .int 0, .int 0, .int 0, .int 0, .int 0, .null, .null, .null, .null, .null, .null, .null, .null]) C0 hP hD hA hS iw_X5 tyX5 tyX5_ok kl_X4_9 kn_X5 ki_X5 rfl (by decide) (Nat.le_of_ble_eq_true rfl) (Nat.le_of_ble_eq_true rfl) dX4_init_38 (fun q10 H hP hD hS => ?_)
  refine lv_dup hx hb dX4_init_41 rfl ?_
  refine mm_callI2 (d := 4) (rest := [.ref q10, .int 3, .ref q1]) C0 hO1 hO2 li_X4_24 (cnX5 (o := q10)) (by decide) rfl rfl hl.1 rfl (mm_cat rfl) dX4_init_42 (Nat.le_of_ble_eq_true rfl) (Nat.le_of_ble_eq_true rfl) hP hD hA hS (fun b11 H locs hb0 hPn hDn hSn => ?_)
  clear hP hD hS
  subst hb0
  have hP := hPn
  have hD := hDn
  have hS := hSn
  have hP : va_P D mm_cl ([(o, .inr (4, [.int 0, .int 0, .int 0, .int 0, .ref q1, .ref q2, .ref q3, .int 0])), (q1, mm_lo cS [some (b5 0), some (b7 0), some (b9 0), none]), (q2, mm_li cI (mm_zs 3)), (q3, mm_li cI (mm_zs 3))] ++ wn_X5 cI cL cS cH b5 ++ wn_X5 cI cL cS cH b7 ++ wn_X5 cI cL cS cH b9 ++ wn_X5 cI cL cS cH b11) H := hP
  have hD : va_D A ([(o, .inr (4, [.int 0, .int 0, .int 0, .int 0, .ref q1, .ref q2, .ref q3, .int 0])), (q1, mm_lo cS [some (b5 0), some (b7 0), some (b9 0), none]), (q2, mm_li cI (mm_zs 3)), (q3, mm_li cI (mm_zs 3))] ++ wn_X5 cI cL cS cH b5 ++ wn_X5 cI cL cS cH b7 ++ wn_X5 cI cL cS cH b9 ++ wn_X5 cI cL cS cH b11) := hD
  refine mm_astq (ci := 5) 2 rfl C0 hP hD hS 1 31 rfl rfl rfl rfl dX4_init_45 (w2 := ([(o, .inr (4, [.int 0, .int 0, .int 0, .int 0, .ref q1, .ref q2, .ref q3, .int 0])), (q1, mm_lo cS [some (b5 0), some (b7 0), some (b9 0), some (b11 0)]), (q2, mm_li cI (mm_zs 3)), (q3, mm_li cI (mm_zs 3))] ++ wn_X5 cI cL cS cH b5 ++ wn_X5 cI cL cS cH b7 ++ wn_X5 cI cL cS cH b9 ++ wn_X5 cI cL cS cH b11)) rfl (fun H locs hP hD hS => ?_)
  refine lv_iinc (v := 4) (lv' := [(1, .int 4), (0, .ref o)]) hx hb dX4_init_46 hl (k := 0) rfl (by decide) (by decide) rfl (fun ls hl => ?_)
  refine lv_goto (tgt := 28) hx hb dX4_init_49 (by decide) ?_
  refine lv_iload_n hx hb dX4_init_28 rfl (lv_at hl 0 rfl) ?_
  refine lv_iconst (v := 3) hx hb dX4_init_29 (by decide) ?_
  refine lv_icmp_gt (tgt := 52) hx hb dX4_init_30 (by decide) (fun _ => ?_) (fun c9 => absurd c9 (by decide))
  rw [show mm_lo cS [some (b5 0), some (b7 0), some (b9 0), some (b11 0)] = mm_lr cS [(b5 0), (b7 0), (b9 0), (b11 0)] from mm_lolr cS [(b5 0), (b7 0), (b9 0), (b11 0)]] at hP hD
  exact mm_nret (fun k => [o, q1, b5 0, b5 1, b5 2, b5 3, b5 4, b5 5, b5 6, b5 7, b5 8, b7 0, b7 1, b7 2, b7 3, b7 4, b7 5, b7 6, b7 7, b7 8, b9 0, b9 1, b9 2, b9 3, b9 4, b9 5, b9 6, b9 7, b9 8, b11 0, b11 1, b11 2, b11 3, b11 4, b11 5, b11 6, b11 7, b11 8, q2, q3].getD k 0) rfl [0, 1, 4, 5, 6, 7, 8, 9, 10, 11, 12, 13, 14, 15, 16, 17, 18, 19, 20, 21, 22, 23, 24, 25, 26, 27, 28, 29, 30, 31, 32, 33, 34, 35, 36, 37, 38, 39, 2, 3] (by decide) rfl C0 hP hD hS dX4_init_52 (Nat.le_of_ble_eq_true rfl) (Nat.le_of_ble_eq_true rfl)
