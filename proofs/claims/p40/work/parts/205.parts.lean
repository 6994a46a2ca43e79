/-! parts: X5_comesOver, X5_bendAt, X5_comesFromStart, X5_bendBetween, X5_markBends, X5_measurePiles, X5_narrow, X5_setAlong, X5_tallAt, X5_turn -/
theorem dX5_comesOver_0 : decode cX5_comesOver 0 = .ok (.iload_n 0, 1) := by decide +kernel
theorem dX5_comesOver_1 : decode cX5_comesOver 1 = .ok (.iconst 1, 1) := by decide +kernel
theorem dX5_comesOver_2 : decode cX5_comesOver 2 = .ok (.iand, 1) := by decide +kernel
theorem dX5_comesOver_3 : decode cX5_comesOver 3 = .ok (.ifCond .ne 7, 3) := by decide +kernel
theorem dX5_comesOver_6 : decode cX5_comesOver 6 = .ok (.iconst 1, 1) := by decide +kernel
theorem dX5_comesOver_7 : decode cX5_comesOver 7 = .ok (.goto 4, 3) := by decide +kernel
theorem dX5_comesOver_10 : decode cX5_comesOver 10 = .ok (.iconst 0, 1) := by decide +kernel
theorem dX5_comesOver_11 : decode cX5_comesOver 11 = .ok (.ireturn, 1) := by decide +kernel
def fX5_comesOver (N : Nat) (x0 : Int32) : Option (Bool) :=
    if (x0 &&& (1 : Int32)) = 0 then
    (some (true))
    else (some (false))

set_option maxHeartbeats 4000000 in
set_option maxRecDepth 100000 in
theorem ctX5_comesOver {l : Launch} {D : va_G} {cI cL cS cH : ClassId} {x0 : Int32}  {r : Bool} {N d : Nat} (hd : 1 ≤ d) (hf : fX5_comesOver N x0 = some r) : mm_Ct l yX5_comesOver cX5_comesOver 1 (some .boolean) d D (mm_T cI cL cS cH) [.int x0] ([] : va_W) ([] : va_W) (some (.int (mm_b r))) := by
  refine mm_of (by decide) (Nat.le_of_ble_eq_true rfl) ?_
  intro p e s m args below meth c A H locs ls C0 hP hD hA hS hl
  have C0 : mm_Cx p s m args meth c RX5 cX5_comesOver 1 (some .boolean) D (mm_T cI cL cS cH) A := C0
  obtain ⟨hx, hb, hml, hown, hts, hr, hlocks, hK, hSt⟩ := id C0
  have hl : lv_has ls 1 [(0, .int x0)] := hl
  unfold fX5_comesOver at hf
  refine lv_iload_n hx hb dX5_comesOver_0 rfl (lv_at hl 0 rfl) ?_
  refine lv_iconst (v := 1) hx hb dX5_comesOver_1 (by decide) ?_
  refine lv_iand hx hb dX5_comesOver_2 ?_
  refine lv_if_ne (tgt := 10) hx hb dX5_comesOver_3 (by decide) (fun c_1 => ?_) (fun c_1 => ?_)
  · have hf := mm_in hf c_1
    refine lv_iconst (v := 0) hx hb dX5_comesOver_10 (by decide) ?_
    obtain rfl := mm_inj1 hf
    exact mm_zret (v := false) C0 hP hD hS dX5_comesOver_11 (by decide)
  · have hf := mm_ip hf c_1
    refine lv_iconst (v := 1) hx hb dX5_comesOver_6 (by decide) ?_
    refine lv_goto (tgt := 11) hx hb dX5_comesOver_7 (by decide) ?_
    obtain rfl := mm_inj1 hf
    exact mm_zret (v := true) C0 hP hD hS dX5_comesOver_11 (by decide)

theorem dX5_bendAt_0 : decode cX5_bendAt 0 = .ok (.aload_n 0, 1) := by decide +kernel
theorem dX5_bendAt_1 : decode cX5_bendAt 1 = .ok (.getfield 21, 3) := by decide +kernel
theorem dX5_bendAt_4 : decode cX5_bendAt 4 = .ok (.iload_n 1, 1) := by decide +kernel
theorem dX5_bendAt_5 : decode cX5_bendAt 5 = .ok (.iaload, 1) := by decide +kernel
theorem dX5_bendAt_6 : decode cX5_bendAt 6 = .ok (.ifCond .ne 7, 3) := by decide +kernel
theorem dX5_bendAt_9 : decode cX5_bendAt 9 = .ok (.iconst 1, 1) := by decide +kernel
theorem dX5_bendAt_10 : decode cX5_bendAt 10 = .ok (.goto 4, 3) := by decide +kernel
theorem dX5_bendAt_13 : decode cX5_bendAt 13 = .ok (.iconst 0, 1) := by decide +kernel
theorem dX5_bendAt_14 : decode cX5_bendAt 14 = .ok (.iload_n 2, 1) := by decide +kernel
theorem dX5_bendAt_15 : decode cX5_bendAt 15 = .ok (.invokestatic 147, 3) := by decide +kernel
theorem dX5_bendAt_18 : decode cX5_bendAt 18 = .ok (.if_icmp .ne 7, 3) := by decide +kernel
theorem dX5_bendAt_21 : decode cX5_bendAt 21 = .ok (.iconst 1, 1) := by decide +kernel
theorem dX5_bendAt_22 : decode cX5_bendAt 22 = .ok (.goto 4, 3) := by decide +kernel
theorem dX5_bendAt_25 : decode cX5_bendAt 25 = .ok (.iconst 2, 1) := by decide +kernel
theorem dX5_bendAt_26 : decode cX5_bendAt 26 = .ok (.ireturn, 1) := by decide +kernel
def fX5_bendAt_14 (N : Nat)  (x2 : Int32) (s0 : Int32) (v_face : List Int32) : Option (Int32) :=
    mm_bd1 (fX5_comesOver N x2) (fun (r_3 : Bool) =>
    if s0 = (mm_b r_3) then
    (some ((1 : Int32)))
    else (some ((2 : Int32))))

set_option maxHeartbeats 4000000 in
set_option maxRecDepth 100000 in
theorem tX5_bendAt_14 {p : Program} {l : Launch} {e : Env} {s : State} {m : MethodId} {args : Array Value} {below : List Frame} {meth : Method} {c : Code} {D : va_G} {cI cL cS cH : ClassId} {A : Nat → Prop} {d : Nat} {a : Nat → Nat} (hd : 2 ≤ d) (C0 : mm_Cx p s m args meth c RX5 cX5_bendAt 3 (some .int) D (mm_T cI cL cS cH) A) (hA : ∀ q, s.heap.size ≤ q → A q) {v_rows : Int32} {v_cols : Int32} {v_high : Int32} {v_wide : Int32} {v_folds : Int32} {v_wrong : Int32} {v_more : Int32} {v_rowOf : List Int32} {v_colOf : List Int32} {v_below : List Int32} {v_worn : List Int32} {v_last : List Int32} {v_bend : List Int32} {v_tall : List Int32} {r : Int32} (N : Nat)  : ∀ (x2 : Int32) (s0 : Int32) (v_face : List Int32) (H : Heap) (locs : List Loc) (ls : Array Slot), fX5_bendAt_14 N x2 s0 v_face = some r → va_P D mm_cl (wd_X5 cI cL cS cH a v_rows v_cols v_high v_wide v_folds v_wrong v_more v_rowOf v_colOf v_below v_face v_worn v_last v_bend v_tall) H → va_D A (wd_X5 cI cL cS cH a v_rows v_cols v_high v_wide v_folds v_wrong v_more v_rowOf v_colOf v_below v_face v_worn v_last v_bend v_tall) → va_S A s.heap H locs → lv_has ls 3 [(2, .int x2)] → W p l e (mm_rr d) s m args below meth c H locs 0 0 (mm_Z below D A (wd_X5 cI cL cS cH a v_rows v_cols v_high v_wide v_folds v_wrong v_more v_rowOf v_colOf v_below v_face v_worn v_last v_bend v_tall) (some (.int r)) args s) (F0 m 14 ls [.int s0]) := by
  obtain ⟨hx, hb, hml, hown, hts, hr, hlocks, hK, hSt⟩ := id C0
  intro x2 s0 v_face H locs ls hf hP hD hS hl
  unfold fX5_bendAt_14 at hf
  refine lv_iload_n hx hb dX5_bendAt_14 rfl (lv_at hl 0 rfl) ?_
  obtain ⟨r_3, hc_4, hf⟩ := mm_bd1s hf
  refine mm_callS0 (rest := [.int s0]) C0 lk_X5_147 (ctX5_comesOver (d := d - 1) (by omega) hc_4) (by omega) rfl hl.1 rfl (mm_cat rfl) dX5_bendAt_15 hP hD hA hS (fun H locs hP hS => ?_)
  refine W.eq (g2 := F0 m 18 ls [.int (mm_b r_3), .int s0]) rfl ?_
  refine lv_icmp_ne (tgt := 25) hx hb dX5_bendAt_18 (by decide) (fun c_5 => ?_) (fun c_5 => ?_)
  · have hf := mm_in hf c_5
    refine lv_iconst (v := 2) hx hb dX5_bendAt_25 (by decide) ?_
    obtain rfl := mm_inj1 hf
    exact mm_iret C0 hP hD hS dX5_bendAt_26
  · have hf := mm_ip hf c_5
    refine lv_iconst (v := 1) hx hb dX5_bendAt_21 (by decide) ?_
    refine lv_goto (tgt := 26) hx hb dX5_bendAt_22 (by decide) ?_
    obtain rfl := mm_inj1 hf
    exact mm_iret C0 hP hD hS dX5_bendAt_26

def fX5_bendAt (N : Nat) (x1 : Int32) (x2 : Int32) (v_face : List Int32) : Option (Int32) :=
    mm_ck (mm_inb x1 v_face.length) (if (mm_ig v_face x1) = 0 then
    (fX5_bendAt_14 N x2 (1 : Int32) v_face)
    else (fX5_bendAt_14 N x2 (0 : Int32) v_face))

set_option maxHeartbeats 4000000 in
set_option maxRecDepth 100000 in
theorem ctX5_bendAt {l : Launch} {D : va_G} {cI cL cS cH : ClassId} {a : Nat → Nat} {x1 : Int32} {x2 : Int32} {v_rows : Int32} {v_cols : Int32} {v_high : Int32} {v_wide : Int32} {v_folds : Int32} {v_wrong : Int32} {v_more : Int32} {v_rowOf : List Int32} {v_colOf : List Int32} {v_below : List Int32} {v_face : List Int32} {v_worn : List Int32} {v_last : List Int32} {v_bend : List Int32} {v_tall : List Int32} {r : Int32} {N d : Nat} (hd : 2 ≤ d) (hf : fX5_bendAt N x1 x2 v_face = some r) : mm_Ct l yX5_bendAt cX5_bendAt 3 (some .int) d D (mm_T cI cL cS cH) [.ref (a 0), .int x1, .int x2] (wd_X5 cI cL cS cH a v_rows v_cols v_high v_wide v_folds v_wrong v_more v_rowOf v_colOf v_below v_face v_worn v_last v_bend v_tall) (wd_X5 cI cL cS cH a v_rows v_cols v_high v_wide v_folds v_wrong v_more v_rowOf v_colOf v_below v_face v_worn v_last v_bend v_tall) (some (.int r)) := by
  refine mm_of (by decide) (Nat.le_of_ble_eq_true rfl) ?_
  intro p e s m args below meth c A H locs ls C0 hP hD hA hS hl
  have C0 : mm_Cx p s m args meth c RX5 cX5_bendAt 3 (some .int) D (mm_T cI cL cS cH) A := C0
  obtain ⟨hx, hb, hml, hown, hts, hr, hlocks, hK, hSt⟩ := id C0
  have hl : lv_has ls 3 [(0, .ref (a 0)), (1, .int x1), (2, .int x2)] := hl
  unfold fX5_bendAt at hf
  refine lv_aload_n hx hb dX5_bendAt_0 rfl (lv_at hl 0 rfl) ?_
  refine mm_get C0 hP iw_X5 0 rfl rfl 10 (by decide) fl_X5_21 rfl dX5_bendAt_1 ?_
  refine lv_iload_n hx hb dX5_bendAt_4 rfl (lv_at hl 1 rfl) ?_
  obtain ⟨h_1, hf⟩ := mm_cks hf
  refine mm_iald C0 hP 4 rfl h_1 dX5_bendAt_5 ?_
  refine lv_if_ne (tgt := 13) hx hb dX5_bendAt_6 (by decide) (fun c_2 => ?_) (fun c_2 => ?_)
  · have hf := mm_in hf c_2
    refine lv_iconst (v := 0) hx hb dX5_bendAt_13 (by decide) ?_
    exact tX5_bendAt_14 hd C0 hA N  _ _ _ H locs ls hf hP hD hS (lv_sub hl [2] rfl)
  · have hf := mm_ip hf c_2
    refine lv_iconst (v := 1) hx hb dX5_bendAt_9 (by decide) ?_
    refine lv_goto (tgt := 14) hx hb dX5_bendAt_10 (by decide) ?_
    exact tX5_bendAt_14 hd C0 hA N  _ _ _ H locs ls hf hP hD hS (lv_sub hl [2] rfl)

theorem dX5_comesFromStart_0 : decode cX5_comesFromStart 0 = .ok (.iload_n 0, 1) := by decide +kernel
theorem dX5_comesFromStart_1 : decode cX5_comesFromStart 1 = .ok (.iconst 2, 1) := by decide +kernel
theorem dX5_comesFromStart_2 : decode cX5_comesFromStart 2 = .ok (.iand, 1) := by decide +kernel
theorem dX5_comesFromStart_3 : decode cX5_comesFromStart 3 = .ok (.ifCond .ne 7, 3) := by decide +kernel
theorem dX5_comesFromStart_6 : decode cX5_comesFromStart 6 = .ok (.iconst 1, 1) := by decide +kernel
theorem dX5_comesFromStart_7 : decode cX5_comesFromStart 7 = .ok (.goto 4, 3) := by decide +kernel
theorem dX5_comesFromStart_10 : decode cX5_comesFromStart 10 = .ok (.iconst 0, 1) := by decide +kernel
theorem dX5_comesFromStart_11 : decode cX5_comesFromStart 11 = .ok (.ireturn, 1) := by decide +kernel
def fX5_comesFromStart (N : Nat) (x0 : Int32) : Option (Bool) :=
    if (x0 &&& (2 : Int32)) = 0 then
    (some (true))
    else (some (false))

set_option maxHeartbeats 4000000 in
set_option maxRecDepth 100000 in
theorem ctX5_comesFromStart {l : Launch} {D : va_G} {cI cL cS cH : ClassId} {x0 : Int32}  {r : Bool} {N d : Nat} (hd : 1 ≤ d) (hf : fX5_comesFromStart N x0 = some r) : mm_Ct l yX5_comesFromStart cX5_comesFromStart 1 (some .boolean) d D (mm_T cI cL cS cH) [.int x0] ([] : va_W) ([] : va_W) (some (.int (mm_b r))) := by
  refine mm_of (by decide) (Nat.le_of_ble_eq_true rfl) ?_
  intro p e s m args below meth c A H locs ls C0 hP hD hA hS hl
  have C0 : mm_Cx p s m args meth c RX5 cX5_comesFromStart 1 (some .boolean) D (mm_T cI cL cS cH) A := C0
  obtain ⟨hx, hb, hml, hown, hts, hr, hlocks, hK, hSt⟩ := id C0
  have hl : lv_has ls 1 [(0, .int x0)] := hl
  unfold fX5_comesFromStart at hf
  refine lv_iload_n hx hb dX5_comesFromStart_0 rfl (lv_at hl 0 rfl) ?_
  refine lv_iconst (v := 2) hx hb dX5_comesFromStart_1 (by decide) ?_
  refine lv_iand hx hb dX5_comesFromStart_2 ?_
  refine lv_if_ne (tgt := 10) hx hb dX5_comesFromStart_3 (by decide) (fun c_1 => ?_) (fun c_1 => ?_)
  · have hf := mm_in hf c_1
    refine lv_iconst (v := 0) hx hb dX5_comesFromStart_10 (by decide) ?_
    obtain rfl := mm_inj1 hf
    exact mm_zret (v := false) C0 hP hD hS dX5_comesFromStart_11 (by decide)
  · have hf := mm_ip hf c_1
    refine lv_iconst (v := 1) hx hb dX5_comesFromStart_6 (by decide) ?_
    refine lv_goto (tgt := 11) hx hb dX5_comesFromStart_7 (by decide) ?_
    obtain rfl := mm_inj1 hf
    exact mm_zret (v := true) C0 hP hD hS dX5_comesFromStart_11 (by decide)

theorem dX5_bendBetween_0 : decode cX5_bendBetween 0 = .ok (.iload 4, 2) := by decide +kernel
theorem dX5_bendBetween_2 : decode cX5_bendBetween 2 = .ok (.invokestatic 135, 3) := by decide +kernel
theorem dX5_bendBetween_5 : decode cX5_bendBetween 5 = .ok (.ifCond .eq 9, 3) := by decide +kernel
theorem dX5_bendBetween_8 : decode cX5_bendBetween 8 = .ok (.iload_n 3, 1) := by decide +kernel
theorem dX5_bendBetween_9 : decode cX5_bendBetween 9 = .ok (.iconst 1, 1) := by decide +kernel
theorem dX5_bendBetween_10 : decode cX5_bendBetween 10 = .ok (.isub, 1) := by decide +kernel
theorem dX5_bendBetween_11 : decode cX5_bendBetween 11 = .ok (.goto 4, 3) := by decide +kernel
theorem dX5_bendBetween_14 : decode cX5_bendBetween 14 = .ok (.iload_n 3, 1) := by decide +kernel
theorem dX5_bendBetween_15 : decode cX5_bendBetween 15 = .ok (.istore 5, 2) := by decide +kernel
theorem dX5_bendBetween_17 : decode cX5_bendBetween 17 = .ok (.iload 4, 2) := by decide +kernel
theorem dX5_bendBetween_19 : decode cX5_bendBetween 19 = .ok (.invokestatic 135, 3) := by decide +kernel
theorem dX5_bendBetween_22 : decode cX5_bendBetween 22 = .ok (.ifCond .eq 7, 3) := by decide +kernel
theorem dX5_bendBetween_25 : decode cX5_bendBetween 25 = .ok (.iload_n 3, 1) := by decide +kernel
theorem dX5_bendBetween_26 : decode cX5_bendBetween 26 = .ok (.goto 6, 3) := by decide +kernel
theorem dX5_bendBetween_29 : decode cX5_bendBetween 29 = .ok (.iload_n 3, 1) := by decide +kernel
theorem dX5_bendBetween_30 : decode cX5_bendBetween 30 = .ok (.iconst 1, 1) := by decide +kernel
theorem dX5_bendBetween_31 : decode cX5_bendBetween 31 = .ok (.isub, 1) := by decide +kernel
theorem dX5_bendBetween_32 : decode cX5_bendBetween 32 = .ok (.istore 6, 2) := by decide +kernel
theorem dX5_bendBetween_34 : decode cX5_bendBetween 34 = .ok (.aload_n 0, 1) := by decide +kernel
theorem dX5_bendBetween_35 : decode cX5_bendBetween 35 = .ok (.iload_n 1, 1) := by decide +kernel
theorem dX5_bendBetween_36 : decode cX5_bendBetween 36 = .ok (.iload 4, 2) := by decide +kernel
theorem dX5_bendBetween_38 : decode cX5_bendBetween 38 = .ok (.invokevirtual 138, 3) := by decide +kernel
theorem dX5_bendBetween_41 : decode cX5_bendBetween 41 = .ok (.aload_n 0, 1) := by decide +kernel
theorem dX5_bendBetween_42 : decode cX5_bendBetween 42 = .ok (.iload_n 2, 1) := by decide +kernel
theorem dX5_bendBetween_43 : decode cX5_bendBetween 43 = .ok (.iload 4, 2) := by decide +kernel
theorem dX5_bendBetween_45 : decode cX5_bendBetween 45 = .ok (.invokevirtual 138, 3) := by decide +kernel
theorem dX5_bendBetween_48 : decode cX5_bendBetween 48 = .ok (.if_icmp .eq 5, 3) := by decide +kernel
theorem dX5_bendBetween_51 : decode cX5_bendBetween 51 = .ok (.iconst 0, 1) := by decide +kernel
theorem dX5_bendBetween_52 : decode cX5_bendBetween 52 = .ok (.ireturn, 1) := by decide +kernel
theorem dX5_bendBetween_53 : decode cX5_bendBetween 53 = .ok (.aload_n 0, 1) := by decide +kernel
theorem dX5_bendBetween_54 : decode cX5_bendBetween 54 = .ok (.iload_n 1, 1) := by decide +kernel
theorem dX5_bendBetween_55 : decode cX5_bendBetween 55 = .ok (.iload 4, 2) := by decide +kernel
theorem dX5_bendBetween_57 : decode cX5_bendBetween 57 = .ok (.invokevirtual 141, 3) := by decide +kernel
theorem dX5_bendBetween_60 : decode cX5_bendBetween 60 = .ok (.iload 5, 2) := by decide +kernel
theorem dX5_bendBetween_62 : decode cX5_bendBetween 62 = .ok (.if_icmp .ne 23, 3) := by decide +kernel
theorem dX5_bendBetween_65 : decode cX5_bendBetween 65 = .ok (.aload_n 0, 1) := by decide +kernel
theorem dX5_bendBetween_66 : decode cX5_bendBetween 66 = .ok (.iload_n 2, 1) := by decide +kernel
theorem dX5_bendBetween_67 : decode cX5_bendBetween 67 = .ok (.iload 4, 2) := by decide +kernel
theorem dX5_bendBetween_69 : decode cX5_bendBetween 69 = .ok (.invokevirtual 141, 3) := by decide +kernel
theorem dX5_bendBetween_72 : decode cX5_bendBetween 72 = .ok (.iload 6, 2) := by decide +kernel
theorem dX5_bendBetween_74 : decode cX5_bendBetween 74 = .ok (.if_icmp .ne 11, 3) := by decide +kernel
theorem dX5_bendBetween_77 : decode cX5_bendBetween 77 = .ok (.aload_n 0, 1) := by decide +kernel
theorem dX5_bendBetween_78 : decode cX5_bendBetween 78 = .ok (.iload_n 1, 1) := by decide +kernel
theorem dX5_bendBetween_79 : decode cX5_bendBetween 79 = .ok (.iload 4, 2) := by decide +kernel
theorem dX5_bendBetween_81 : decode cX5_bendBetween 81 = .ok (.invokevirtual 144, 3) := by decide +kernel
theorem dX5_bendBetween_84 : decode cX5_bendBetween 84 = .ok (.ireturn, 1) := by decide +kernel
theorem dX5_bendBetween_85 : decode cX5_bendBetween 85 = .ok (.aload_n 0, 1) := by decide +kernel
theorem dX5_bendBetween_86 : decode cX5_bendBetween 86 = .ok (.iload_n 2, 1) := by decide +kernel
theorem dX5_bendBetween_87 : decode cX5_bendBetween 87 = .ok (.iload 4, 2) := by decide +kernel
theorem dX5_bendBetween_89 : decode cX5_bendBetween 89 = .ok (.invokevirtual 141, 3) := by decide +kernel
theorem dX5_bendBetween_92 : decode cX5_bendBetween 92 = .ok (.iload 5, 2) := by decide +kernel
theorem dX5_bendBetween_94 : decode cX5_bendBetween 94 = .ok (.if_icmp .ne 23, 3) := by decide +kernel
theorem dX5_bendBetween_97 : decode cX5_bendBetween 97 = .ok (.aload_n 0, 1) := by decide +kernel
theorem dX5_bendBetween_98 : decode cX5_bendBetween 98 = .ok (.iload_n 1, 1) := by decide +kernel
theorem dX5_bendBetween_99 : decode cX5_bendBetween 99 = .ok (.iload 4, 2) := by decide +kernel
theorem dX5_bendBetween_101 : decode cX5_bendBetween 101 = .ok (.invokevirtual 141, 3) := by decide +kernel
theorem dX5_bendBetween_104 : decode cX5_bendBetween 104 = .ok (.iload 6, 2) := by decide +kernel
theorem dX5_bendBetween_106 : decode cX5_bendBetween 106 = .ok (.if_icmp .ne 11, 3) := by decide +kernel
theorem dX5_bendBetween_109 : decode cX5_bendBetween 109 = .ok (.aload_n 0, 1) := by decide +kernel
theorem dX5_bendBetween_110 : decode cX5_bendBetween 110 = .ok (.iload_n 2, 1) := by decide +kernel
theorem dX5_bendBetween_111 : decode cX5_bendBetween 111 = .ok (.iload 4, 2) := by decide +kernel
theorem dX5_bendBetween_113 : decode cX5_bendBetween 113 = .ok (.invokevirtual 144, 3) := by decide +kernel
theorem dX5_bendBetween_116 : decode cX5_bendBetween 116 = .ok (.ireturn, 1) := by decide +kernel
theorem dX5_bendBetween_117 : decode cX5_bendBetween 117 = .ok (.iconst 0, 1) := by decide +kernel
theorem dX5_bendBetween_118 : decode cX5_bendBetween 118 = .ok (.ireturn, 1) := by decide +kernel
def fX5_bendBetween_85 (N : Nat)  (x1 : Int32) (x2 : Int32) (x4 : Int32) (x5 : Int32) (x6 : Int32) (v_rowOf : List Int32) (v_colOf : List Int32) (v_face : List Int32) : Option (Int32) :=
    mm_bd1 (fX5_along N x2 x4 v_rowOf v_colOf) (fun (r_20 : Int32) =>
    if r_20 = x5 then
    (mm_bd1 (fX5_along N x1 x4 v_rowOf v_colOf) (fun (r_23 : Int32) =>
    if r_23 = x6 then
    (mm_bd1 (fX5_bendAt N x2 x4 v_face) (fun (r_26 : Int32) =>
    some (r_26)))
    else (some ((0 : Int32)))))
    else (some ((0 : Int32))))

set_option maxHeartbeats 4000000 in
set_option maxRecDepth 100000 in
theorem tX5_bendBetween_85 {p : Program} {l : Launch} {e : Env} {s : State} {m : MethodId} {args : Array Value} {below : List Frame} {meth : Method} {c : Code} {D : va_G} {cI cL cS cH : ClassId} {A : Nat → Prop} {d : Nat} {a : Nat → Nat} (hd : 3 ≤ d) (C0 : mm_Cx p s m args meth c RX5 cX5_bendBetween 7 (some .int) D (mm_T cI cL cS cH) A) (hA : ∀ q, s.heap.size ≤ q → A q) {v_rows : Int32} {v_cols : Int32} {v_high : Int32} {v_wide : Int32} {v_folds : Int32} {v_wrong : Int32} {v_more : Int32} {v_below : List Int32} {v_worn : List Int32} {v_last : List Int32} {v_bend : List Int32} {v_tall : List Int32} {r : Int32} (N : Nat)  : ∀ (x1 : Int32) (x2 : Int32) (x4 : Int32) (x5 : Int32) (x6 : Int32) (v_rowOf : List Int32) (v_colOf : List Int32) (v_face : List Int32) (H : Heap) (locs : List Loc) (ls : Array Slot), fX5_bendBetween_85 N x1 x2 x4 x5 x6 v_rowOf v_colOf v_face = some r → va_P D mm_cl (wd_X5 cI cL cS cH a v_rows v_cols v_high v_wide v_folds v_wrong v_more v_rowOf v_colOf v_below v_face v_worn v_last v_bend v_tall) H → va_D A (wd_X5 cI cL cS cH a v_rows v_cols v_high v_wide v_folds v_wrong v_more v_rowOf v_colOf v_below v_face v_worn v_last v_bend v_tall) → va_S A s.heap H locs → lv_has ls 7 [(0, .ref (a 0)), (1, .int x1), (2, .int x2), (4, .int x4), (5, .int x5), (6, .int x6)] → W p l e (mm_rr d) s m args below meth c H locs 0 0 (mm_Z below D A (wd_X5 cI cL cS cH a v_rows v_cols v_high v_wide v_folds v_wrong v_more v_rowOf v_colOf v_below v_face v_worn v_last v_bend v_tall) (some (.int r)) args s) (F0 m 85 ls []) := by
  obtain ⟨hx, hb, hml, hown, hts, hr, hlocks, hK, hSt⟩ := id C0
  intro x1 x2 x4 x5 x6 v_rowOf v_colOf v_face H locs ls hf hP hD hS hl
  unfold fX5_bendBetween_85 at hf
  refine lv_aload_n hx hb dX5_bendBetween_85 rfl (lv_at hl 0 rfl) ?_
  refine lv_iload_n hx hb dX5_bendBetween_86 rfl (lv_at hl 2 rfl) ?_
  refine lv_iload hx hb dX5_bendBetween_87 (lv_at hl 3 rfl) ?_
  obtain ⟨r_20, hc_21, hf⟩ := mm_bd1s hf
  refine mm_callVF (q0 := 0) (ci := 5) (rest := []) C0 lk_X5_141 (ctX5_along (a := a) (d := d - 1) (by omega) hc_21) (by omega) rfl hl.1 rfl (mm_cat rfl) dX5_bendBetween_89 hP hD hA hS rfl rfl (fun H locs hP hD hS => ?_)
  refine W.eq (g2 := F0 m 92 ls [.int r_20]) rfl ?_
  refine lv_iload hx hb dX5_bendBetween_92 (lv_at hl 4 rfl) ?_
  refine lv_icmp_ne (tgt := 117) hx hb dX5_bendBetween_94 (by decide) (fun c_22 => ?_) (fun c_22 => ?_)
  · have hf := mm_in hf c_22
    refine lv_iconst (v := 0) hx hb dX5_bendBetween_117 (by decide) ?_
    obtain rfl := mm_inj1 hf
    exact mm_iret C0 hP hD hS dX5_bendBetween_118
  · have hf := mm_ip hf c_22
    refine lv_aload_n hx hb dX5_bendBetween_97 rfl (lv_at hl 0 rfl) ?_
    refine lv_iload_n hx hb dX5_bendBetween_98 rfl (lv_at hl 1 rfl) ?_
    refine lv_iload hx hb dX5_bendBetween_99 (lv_at hl 3 rfl) ?_
    obtain ⟨r_23, hc_24, hf⟩ := mm_bd1s hf
    refine mm_callVF (q0 := 0) (ci := 5) (rest := []) C0 lk_X5_141 (ctX5_along (a := a) (d := d - 1) (by omega) hc_24) (by omega) rfl hl.1 rfl (mm_cat rfl) dX5_bendBetween_101 hP hD hA hS rfl rfl (fun H locs hP hD hS => ?_)
    refine W.eq (g2 := F0 m 104 ls [.int r_23]) rfl ?_
    refine lv_iload hx hb dX5_bendBetween_104 (lv_at hl 5 rfl) ?_
    refine lv_icmp_ne (tgt := 117) hx hb dX5_bendBetween_106 (by decide) (fun c_25 => ?_) (fun c_25 => ?_)
    · have hf := mm_in hf c_25
      refine lv_iconst (v := 0) hx hb dX5_bendBetween_117 (by decide) ?_
      obtain rfl := mm_inj1 hf
      exact mm_iret C0 hP hD hS dX5_bendBetween_118
    · have hf := mm_ip hf c_25
      refine lv_aload_n hx hb dX5_bendBetween_109 rfl (lv_at hl 0 rfl) ?_
      refine lv_iload_n hx hb dX5_bendBetween_110 rfl (lv_at hl 2 rfl) ?_
      refine lv_iload hx hb dX5_bendBetween_111 (lv_at hl 3 rfl) ?_
      obtain ⟨r_26, hc_27, hf⟩ := mm_bd1s hf
      refine mm_callVF (q0 := 0) (ci := 5) (rest := []) C0 lk_X5_144 (ctX5_bendAt (a := a) (d := d - 1) (by omega) hc_27) (by omega) rfl hl.1 rfl (mm_cat rfl) dX5_bendBetween_113 hP hD hA hS rfl rfl (fun H locs hP hD hS => ?_)
      refine W.eq (g2 := F0 m 116 ls [.int r_26]) rfl ?_
      obtain rfl := mm_inj1 hf
      exact mm_iret C0 hP hD hS dX5_bendBetween_116

def fX5_bendBetween_32 (N : Nat)  (x1 : Int32) (x2 : Int32) (x4 : Int32) (x5 : Int32) (s0 : Int32) (v_rowOf : List Int32) (v_colOf : List Int32) (v_face : List Int32) : Option (Int32) :=
    mm_bd1 (fX5_across N x1 x4 v_rowOf v_colOf) (fun (r_7 : Int32) =>
    mm_bd1 (fX5_across N x2 x4 v_rowOf v_colOf) (fun (r_9 : Int32) =>
    if r_7 = r_9 then
    (mm_bd1 (fX5_along N x1 x4 v_rowOf v_colOf) (fun (r_12 : Int32) =>
    if r_12 = x5 then
    (mm_bd1 (fX5_along N x2 x4 v_rowOf v_colOf) (fun (r_15 : Int32) =>
    if r_15 = s0 then
    (mm_bd1 (fX5_bendAt N x1 x4 v_face) (fun (r_18 : Int32) =>
    some (r_18)))
    else (fX5_bendBetween_85 N x1 x2 x4 x5 s0 v_rowOf v_colOf v_face)))
    else (fX5_bendBetween_85 N x1 x2 x4 x5 s0 v_rowOf v_colOf v_face)))
    else (some ((0 : Int32)))))

set_option maxHeartbeats 4000000 in
set_option maxRecDepth 100000 in
theorem tX5_bendBetween_32 {p : Program} {l : Launch} {e : Env} {s : State} {m : MethodId} {args : Array Value} {below : List Frame} {meth : Method} {c : Code} {D : va_G} {cI cL cS cH : ClassId} {A : Nat → Prop} {d : Nat} {a : Nat → Nat} (hd : 3 ≤ d) (C0 : mm_Cx p s m args meth c RX5 cX5_bendBetween 7 (some .int) D (mm_T cI cL cS cH) A) (hA : ∀ q, s.heap.size ≤ q → A q) {v_rows : Int32} {v_cols : Int32} {v_high : Int32} {v_wide : Int32} {v_folds : Int32} {v_wrong : Int32} {v_more : Int32} {v_below : List Int32} {v_worn : List Int32} {v_last : List Int32} {v_bend : List Int32} {v_tall : List Int32} {r : Int32} (N : Nat)  : ∀ (x1 : Int32) (x2 : Int32) (x4 : Int32) (x5 : Int32) (s0 : Int32) (v_rowOf : List Int32) (v_colOf : List Int32) (v_face : List Int32) (H : Heap) (locs : List Loc) (ls : Array Slot), fX5_bendBetween_32 N x1 x2 x4 x5 s0 v_rowOf v_colOf v_face = some r → va_P D mm_cl (wd_X5 cI cL cS cH a v_rows v_cols v_high v_wide v_folds v_wrong v_more v_rowOf v_colOf v_below v_face v_worn v_last v_bend v_tall) H → va_D A (wd_X5 cI cL cS cH a v_rows v_cols v_high v_wide v_folds v_wrong v_more v_rowOf v_colOf v_below v_face v_worn v_last v_bend v_tall) → va_S A s.heap H locs → lv_has ls 7 [(0, .ref (a 0)), (1, .int x1), (2, .int x2), (4, .int x4), (5, .int x5)] → W p l e (mm_rr d) s m args below meth c H locs 0 0 (mm_Z below D A (wd_X5 cI cL cS cH a v_rows v_cols v_high v_wide v_folds v_wrong v_more v_rowOf v_colOf v_below v_face v_worn v_last v_bend v_tall) (some (.int r)) args s) (F0 m 32 ls [.int s0]) := by
  obtain ⟨hx, hb, hml, hown, hts, hr, hlocks, hK, hSt⟩ := id C0
  intro x1 x2 x4 x5 s0 v_rowOf v_colOf v_face H locs ls hf hP hD hS hl
  unfold fX5_bendBetween_32 at hf
  refine lv_istore (lv' := [(6, .int s0), (0, .ref (a 0)), (1, .int x1), (2, .int x2), (4, .int x4), (5, .int x5)]) hx hb dX5_bendBetween_32 hl (by decide) rfl (fun ls hl => ?_)
  refine lv_aload_n hx hb dX5_bendBetween_34 rfl (lv_at hl 1 rfl) ?_
  refine lv_iload_n hx hb dX5_bendBetween_35 rfl (lv_at hl 2 rfl) ?_
  refine lv_iload hx hb dX5_bendBetween_36 (lv_at hl 4 rfl) ?_
  obtain ⟨r_7, hc_8, hf⟩ := mm_bd1s hf
  refine mm_callVF (q0 := 0) (ci := 5) (rest := []) C0 lk_X5_138 (ctX5_across (a := a) (d := d - 1) (by omega) hc_8) (by omega) rfl hl.1 rfl (mm_cat rfl) dX5_bendBetween_38 hP hD hA hS rfl rfl (fun H locs hP hD hS => ?_)
  refine W.eq (g2 := F0 m 41 ls [.int r_7]) rfl ?_
  refine lv_aload_n hx hb dX5_bendBetween_41 rfl (lv_at hl 1 rfl) ?_
  refine lv_iload_n hx hb dX5_bendBetween_42 rfl (lv_at hl 3 rfl) ?_
  refine lv_iload hx hb dX5_bendBetween_43 (lv_at hl 4 rfl) ?_
  obtain ⟨r_9, hc_10, hf⟩ := mm_bd1s hf
  refine mm_callVF (q0 := 0) (ci := 5) (rest := [.int r_7]) C0 lk_X5_138 (ctX5_across (a := a) (d := d - 1) (by omega) hc_10) (by omega) rfl hl.1 rfl (mm_cat rfl) dX5_bendBetween_45 hP hD hA hS rfl rfl (fun H locs hP hD hS => ?_)
  refine W.eq (g2 := F0 m 48 ls [.int r_9, .int r_7]) rfl ?_
  refine lv_icmp_eq (tgt := 53) hx hb dX5_bendBetween_48 (by decide) (fun c_11 => ?_) (fun c_11 => ?_)
  · have hf := mm_ip hf c_11
    refine lv_aload_n hx hb dX5_bendBetween_53 rfl (lv_at hl 1 rfl) ?_
    refine lv_iload_n hx hb dX5_bendBetween_54 rfl (lv_at hl 2 rfl) ?_
    refine lv_iload hx hb dX5_bendBetween_55 (lv_at hl 4 rfl) ?_
    obtain ⟨r_12, hc_13, hf⟩ := mm_bd1s hf
    refine mm_callVF (q0 := 0) (ci := 5) (rest := []) C0 lk_X5_141 (ctX5_along (a := a) (d := d - 1) (by omega) hc_13) (by omega) rfl hl.1 rfl (mm_cat rfl) dX5_bendBetween_57 hP hD hA hS rfl rfl (fun H locs hP hD hS => ?_)
    refine W.eq (g2 := F0 m 60 ls [.int r_12]) rfl ?_
    refine lv_iload hx hb dX5_bendBetween_60 (lv_at hl 5 rfl) ?_
    refine lv_icmp_ne (tgt := 85) hx hb dX5_bendBetween_62 (by decide) (fun c_14 => ?_) (fun c_14 => ?_)
    · have hf := mm_in hf c_14
      exact tX5_bendBetween_85 hd C0 hA N  _ _ _ _ _ _ _ _ H locs ls hf hP hD hS (lv_sub hl [1, 2, 3, 4, 5, 0] rfl)
    · have hf := mm_ip hf c_14
      refine lv_aload_n hx hb dX5_bendBetween_65 rfl (lv_at hl 1 rfl) ?_
      refine lv_iload_n hx hb dX5_bendBetween_66 rfl (lv_at hl 3 rfl) ?_
      refine lv_iload hx hb dX5_bendBetween_67 (lv_at hl 4 rfl) ?_
      obtain ⟨r_15, hc_16, hf⟩ := mm_bd1s hf
      refine mm_callVF (q0 := 0) (ci := 5) (rest := []) C0 lk_X5_141 (ctX5_along (a := a) (d := d - 1) (by omega) hc_16) (by omega) rfl hl.1 rfl (mm_cat rfl) dX5_bendBetween_69 hP hD hA hS rfl rfl (fun H locs hP hD hS => ?_)
      refine W.eq (g2 := F0 m 72 ls [.int r_15]) rfl ?_
      refine lv_iload hx hb dX5_bendBetween_72 (lv_at hl 0 rfl) ?_
      refine lv_icmp_ne (tgt := 85) hx hb dX5_bendBetween_74 (by decide) (fun c_17 => ?_) (fun c_17 => ?_)
      · have hf := mm_in hf c_17
        exact tX5_bendBetween_85 hd C0 hA N  _ _ _ _ _ _ _ _ H locs ls hf hP hD hS (lv_sub hl [1, 2, 3, 4, 5, 0] rfl)
      · have hf := mm_ip hf c_17
        refine lv_aload_n hx hb dX5_bendBetween_77 rfl (lv_at hl 1 rfl) ?_
        refine lv_iload_n hx hb dX5_bendBetween_78 rfl (lv_at hl 2 rfl) ?_
        refine lv_iload hx hb dX5_bendBetween_79 (lv_at hl 4 rfl) ?_
        obtain ⟨r_18, hc_19, hf⟩ := mm_bd1s hf
        refine mm_callVF (q0 := 0) (ci := 5) (rest := []) C0 lk_X5_144 (ctX5_bendAt (a := a) (d := d - 1) (by omega) hc_19) (by omega) rfl hl.1 rfl (mm_cat rfl) dX5_bendBetween_81 hP hD hA hS rfl rfl (fun H locs hP hD hS => ?_)
        refine W.eq (g2 := F0 m 84 ls [.int r_18]) rfl ?_
        obtain rfl := mm_inj1 hf
        exact mm_iret C0 hP hD hS dX5_bendBetween_84
  · have hf := mm_in hf c_11
    refine lv_iconst (v := 0) hx hb dX5_bendBetween_51 (by decide) ?_
    obtain rfl := mm_inj1 hf
    exact mm_iret C0 hP hD hS dX5_bendBetween_52

def fX5_bendBetween_15 (N : Nat)  (x1 : Int32) (x2 : Int32) (x3 : Int32) (x4 : Int32) (s0 : Int32) (v_rowOf : List Int32) (v_colOf : List Int32) (v_face : List Int32) : Option (Int32) :=
    mm_bd1 (fX5_comesFromStart N x4) (fun (r_4 : Bool) =>
    if r_4 = false then
    (fX5_bendBetween_32 N x1 x2 x4 s0 (x3 - (1 : Int32)) v_rowOf v_colOf v_face)
    else (fX5_bendBetween_32 N x1 x2 x4 s0 x3 v_rowOf v_colOf v_face))

set_option maxHeartbeats 4000000 in
set_option maxRecDepth 100000 in
theorem tX5_bendBetween_15 {p : Program} {l : Launch} {e : Env} {s : State} {m : MethodId} {args : Array Value} {below : List Frame} {meth : Method} {c : Code} {D : va_G} {cI cL cS cH : ClassId} {A : Nat → Prop} {d : Nat} {a : Nat → Nat} (hd : 3 ≤ d) (C0 : mm_Cx p s m args meth c RX5 cX5_bendBetween 7 (some .int) D (mm_T cI cL cS cH) A) (hA : ∀ q, s.heap.size ≤ q → A q) {v_rows : Int32} {v_cols : Int32} {v_high : Int32} {v_wide : Int32} {v_folds : Int32} {v_wrong : Int32} {v_more : Int32} {v_below : List Int32} {v_worn : List Int32} {v_last : List Int32} {v_bend : List Int32} {v_tall : List Int32} {r : Int32} (N : Nat)  : ∀ (x1 : Int32) (x2 : Int32) (x3 : Int32) (x4 : Int32) (s0 : Int32) (v_rowOf : List Int32) (v_colOf : List Int32) (v_face : List Int32) (H : Heap) (locs : List Loc) (ls : Array Slot), fX5_bendBetween_15 N x1 x2 x3 x4 s0 v_rowOf v_colOf v_face = some r → va_P D mm_cl (wd_X5 cI cL cS cH a v_rows v_cols v_high v_wide v_folds v_wrong v_more v_rowOf v_colOf v_below v_face v_worn v_last v_bend v_tall) H → va_D A (wd_X5 cI cL cS cH a v_rows v_cols v_high v_wide v_folds v_wrong v_more v_rowOf v_colOf v_below v_face v_worn v_last v_bend v_tall) → va_S A s.heap H locs → lv_has ls 7 [(0, .ref (a 0)), (1, .int x1), (2, .int x2), (3, .int x3), (4, .int x4)] → W p l e (mm_rr d) s m args below meth c H locs 0 0 (mm_Z below D A (wd_X5 cI cL cS cH a v_rows v_cols v_high v_wide v_folds v_wrong v_more v_rowOf v_colOf v_below v_face v_worn v_last v_bend v_tall) (some (.int r)) args s) (F0 m 15 ls [.int s0]) := by
  obtain ⟨hx, hb, hml, hown, hts, hr, hlocks, hK, hSt⟩ := id C0
  intro x1 x2 x3 x4 s0 v_rowOf v_colOf v_face H locs ls hf hP hD hS hl
  unfold fX5_bendBetween_15 at hf
  refine lv_istore (lv' := [(5, .int s0), (0, .ref (a 0)), (1, .int x1), (2, .int x2), (3, .int x3), (4, .int x4)]) hx hb dX5_bendBetween_15 hl (by decide) rfl (fun ls hl => ?_)
  refine lv_iload hx hb dX5_bendBetween_17 (lv_at hl 5 rfl) ?_
  obtain ⟨r_4, hc_5, hf⟩ := mm_bd1s hf
  refine mm_callS0 (rest := []) C0 lk_X5_135 (ctX5_comesFromStart (d := d - 1) (by omega) hc_5) (by omega) rfl hl.1 rfl (mm_cat rfl) dX5_bendBetween_19 hP hD hA hS (fun H locs hP hS => ?_)
  refine W.eq (g2 := F0 m 22 ls [.int (mm_b r_4)]) rfl ?_
  refine lv_if_eq (tgt := 29) hx hb dX5_bendBetween_22 (by decide) (fun c_6 => ?_) (fun c_6 => ?_)
  · have hf := mm_ip hf (mm_b0 c_6)
    refine lv_iload_n hx hb dX5_bendBetween_29 rfl (lv_at hl 4 rfl) ?_
    refine lv_iconst (v := 1) hx hb dX5_bendBetween_30 (by decide) ?_
    refine lv_isub hx hb dX5_bendBetween_31 ?_
    exact tX5_bendBetween_32 hd C0 hA N  _ _ _ _ _ _ _ _ H locs ls hf hP hD hS (lv_sub hl [1, 2, 3, 5, 0] rfl)
  · have hf := mm_in hf (mm_b1 c_6)
    refine lv_iload_n hx hb dX5_bendBetween_25 rfl (lv_at hl 4 rfl) ?_
    refine lv_goto (tgt := 32) hx hb dX5_bendBetween_26 (by decide) ?_
    exact tX5_bendBetween_32 hd C0 hA N  _ _ _ _ _ _ _ _ H locs ls hf hP hD hS (lv_sub hl [1, 2, 3, 5, 0] rfl)

def fX5_bendBetween (N : Nat) (x1 : Int32) (x2 : Int32) (x3 : Int32) (x4 : Int32) (v_rowOf : List Int32) (v_colOf : List Int32) (v_face : List Int32) : Option (Int32) :=
    mm_bd1 (fX5_comesFromStart N x4) (fun (r_1 : Bool) =>
    if r_1 = false then
    (fX5_bendBetween_15 N x1 x2 x3 x4 x3 v_rowOf v_colOf v_face)
    else (fX5_bendBetween_15 N x1 x2 x3 x4 (x3 - (1 : Int32)) v_rowOf v_colOf v_face))

set_option maxHeartbeats 4000000 in
set_option maxRecDepth 100000 in
theorem ctX5_bendBetween {l : Launch} {D : va_G} {cI cL cS cH : ClassId} {a : Nat → Nat} {x1 : Int32} {x2 : Int32} {x3 : Int32} {x4 : Int32} {v_rows : Int32} {v_cols : Int32} {v_high : Int32} {v_wide : Int32} {v_folds : Int32} {v_wrong : Int32} {v_more : Int32} {v_rowOf : List Int32} {v_colOf : List Int32} {v_below : List Int32} {v_face : List Int32} {v_worn : List Int32} {v_last : List Int32} {v_bend : List Int32} {v_tall : List Int32} {r : Int32} {N d : Nat} (hd : 3 ≤ d) (hf : fX5_bendBetween N x1 x2 x3 x4 v_rowOf v_colOf v_face = some r) : mm_Ct l yX5_bendBetween cX5_bendBetween 7 (some .int) d D (mm_T cI cL cS cH) [.ref (a 0), .int x1, .int x2, .int x3, .int x4] (wd_X5 cI cL cS cH a v_rows v_cols v_high v_wide v_folds v_wrong v_more v_rowOf v_colOf v_below v_face v_worn v_last v_bend v_tall) (wd_X5 cI cL cS cH a v_rows v_cols v_high v_wide v_folds v_wrong v_more v_rowOf v_colOf v_below v_face v_worn v_last v_bend v_tall) (some (.int r)) := by
  refine mm_of (by decide) (Nat.le_of_ble_eq_true rfl) ?_
  intro p e s m args below meth c A H locs ls C0 hP hD hA hS hl
  have C0 : mm_Cx p s m args meth c RX5 cX5_bendBetween 7 (some .int) D (mm_T cI cL cS cH) A := C0
  obtain ⟨hx, hb, hml, hown, hts, hr, hlocks, hK, hSt⟩ := id C0
  have hl : lv_has ls 7 [(0, .ref (a 0)), (1, .int x1), (2, .int x2), (3, .int x3), (4, .int x4)] := hl
  unfold fX5_bendBetween at hf
  refine lv_iload hx hb dX5_bendBetween_0 (lv_at hl 4 rfl) ?_
  obtain ⟨r_1, hc_2, hf⟩ := mm_bd1s hf
  refine mm_callS0 (rest := []) C0 lk_X5_135 (ctX5_comesFromStart (d := d - 1) (by omega) hc_2) (by omega) rfl hl.1 rfl (mm_cat rfl) dX5_bendBetween_2 hP hD hA hS (fun H locs hP hS => ?_)
  refine W.eq (g2 := F0 m 5 ls [.int (mm_b r_1)]) rfl ?_
  refine lv_if_eq (tgt := 14) hx hb dX5_bendBetween_5 (by decide) (fun c_3 => ?_) (fun c_3 => ?_)
  · have hf := mm_ip hf (mm_b0 c_3)
    refine lv_iload_n hx hb dX5_bendBetween_14 rfl (lv_at hl 3 rfl) ?_
    exact tX5_bendBetween_15 hd C0 hA N  _ _ _ _ _ _ _ _ H locs ls hf hP hD hS (lv_sub hl [0, 1, 2, 3, 4] rfl)
  · have hf := mm_in hf (mm_b1 c_3)
    refine lv_iload_n hx hb dX5_bendBetween_8 rfl (lv_at hl 3 rfl) ?_
    refine lv_iconst (v := 1) hx hb dX5_bendBetween_9 (by decide) ?_
    refine lv_isub hx hb dX5_bendBetween_10 ?_
    refine lv_goto (tgt := 15) hx hb dX5_bendBetween_11 (by decide) ?_
    exact tX5_bendBetween_15 hd C0 hA N  _ _ _ _ _ _ _ _ H locs ls hf hP hD hS (lv_sub hl [0, 1, 2, 3, 4] rfl)

theorem dX5_markBends_0 : decode cX5_markBends 0 = .ok (.iconst 0, 1) := by decide +kernel
theorem dX5_markBends_1 : decode cX5_markBends 1 = .ok (.istore 4, 2) := by decide +kernel
theorem dX5_markBends_3 : decode cX5_markBends 3 = .ok (.iconst 0, 1) := by decide +kernel
theorem dX5_markBends_4 : decode cX5_markBends 4 = .ok (.istore 5, 2) := by decide +kernel
theorem dX5_markBends_6 : decode cX5_markBends 6 = .ok (.iload 5, 2) := by decide +kernel
theorem dX5_markBends_8 : decode cX5_markBends 8 = .ok (.iconst 2, 1) := by decide +kernel
theorem dX5_markBends_9 : decode cX5_markBends 9 = .ok (.aload_n 0, 1) := by decide +kernel
theorem dX5_markBends_10 : decode cX5_markBends 10 = .ok (.invokevirtual 84, 3) := by decide +kernel
theorem dX5_markBends_13 : decode cX5_markBends 13 = .ok (.imul, 1) := by decide +kernel
theorem dX5_markBends_14 : decode cX5_markBends 14 = .ok (.if_icmp .ge 75, 3) := by decide +kernel
theorem dX5_markBends_17 : decode cX5_markBends 17 = .ok (.aload_n 0, 1) := by decide +kernel
theorem dX5_markBends_18 : decode cX5_markBends 18 = .ok (.iload 5, 2) := by decide +kernel
theorem dX5_markBends_20 : decode cX5_markBends 20 = .ok (.iconst 2, 1) := by decide +kernel
theorem dX5_markBends_21 : decode cX5_markBends 21 = .ok (.idiv, 1) := by decide +kernel
theorem dX5_markBends_22 : decode cX5_markBends 22 = .ok (.iload 5, 2) := by decide +kernel
theorem dX5_markBends_24 : decode cX5_markBends 24 = .ok (.iconst 2, 1) := by decide +kernel
theorem dX5_markBends_25 : decode cX5_markBends 25 = .ok (.irem, 1) := by decide +kernel
theorem dX5_markBends_26 : decode cX5_markBends 26 = .ok (.invokevirtual 118, 3) := by decide +kernel
theorem dX5_markBends_29 : decode cX5_markBends 29 = .ok (.istore 6, 2) := by decide +kernel
theorem dX5_markBends_31 : decode cX5_markBends 31 = .ok (.aload_n 0, 1) := by decide +kernel
theorem dX5_markBends_32 : decode cX5_markBends 32 = .ok (.getfield 30, 3) := by decide +kernel
theorem dX5_markBends_35 : decode cX5_markBends 35 = .ok (.iload 5, 2) := by decide +kernel
theorem dX5_markBends_37 : decode cX5_markBends 37 = .ok (.iload 6, 2) := by decide +kernel
theorem dX5_markBends_39 : decode cX5_markBends 39 = .ok (.ifCond .lt 14, 3) := by decide +kernel
theorem dX5_markBends_42 : decode cX5_markBends 42 = .ok (.aload_n 0, 1) := by decide +kernel
theorem dX5_markBends_43 : decode cX5_markBends 43 = .ok (.getfield 24, 3) := by decide +kernel
theorem dX5_markBends_46 : decode cX5_markBends 46 = .ok (.iload 5, 2) := by decide +kernel
theorem dX5_markBends_48 : decode cX5_markBends 48 = .ok (.iaload, 1) := by decide +kernel
theorem dX5_markBends_49 : decode cX5_markBends 49 = .ok (.iload_n 3, 1) := by decide +kernel
theorem dX5_markBends_50 : decode cX5_markBends 50 = .ok (.if_icmp .lt 7, 3) := by decide +kernel
theorem dX5_markBends_53 : decode cX5_markBends 53 = .ok (.iconst 0, 1) := by decide +kernel
theorem dX5_markBends_54 : decode cX5_markBends 54 = .ok (.goto 15, 3) := by decide +kernel
theorem dX5_markBends_57 : decode cX5_markBends 57 = .ok (.aload_n 0, 1) := by decide +kernel
theorem dX5_markBends_58 : decode cX5_markBends 58 = .ok (.iload 5, 2) := by decide +kernel
theorem dX5_markBends_60 : decode cX5_markBends 60 = .ok (.iconst 2, 1) := by decide +kernel
theorem dX5_markBends_61 : decode cX5_markBends 61 = .ok (.idiv, 1) := by decide +kernel
theorem dX5_markBends_62 : decode cX5_markBends 62 = .ok (.iload 6, 2) := by decide +kernel
theorem dX5_markBends_64 : decode cX5_markBends 64 = .ok (.iload_n 1, 1) := by decide +kernel
theorem dX5_markBends_65 : decode cX5_markBends 65 = .ok (.iload_n 2, 1) := by decide +kernel
theorem dX5_markBends_66 : decode cX5_markBends 66 = .ok (.invokevirtual 131, 3) := by decide +kernel
theorem dX5_markBends_69 : decode cX5_markBends 69 = .ok (.iastore, 1) := by decide +kernel
theorem dX5_markBends_70 : decode cX5_markBends 70 = .ok (.aload_n 0, 1) := by decide +kernel
theorem dX5_markBends_71 : decode cX5_markBends 71 = .ok (.getfield 30, 3) := by decide +kernel
theorem dX5_markBends_74 : decode cX5_markBends 74 = .ok (.iload 5, 2) := by decide +kernel
theorem dX5_markBends_76 : decode cX5_markBends 76 = .ok (.iaload, 1) := by decide +kernel
theorem dX5_markBends_77 : decode cX5_markBends 77 = .ok (.ifCond .eq 6, 3) := by decide +kernel
theorem dX5_markBends_80 : decode cX5_markBends 80 = .ok (.iinc 4 1, 3) := by decide +kernel
theorem dX5_markBends_83 : decode cX5_markBends 83 = .ok (.iinc 5 1, 3) := by decide +kernel
theorem dX5_markBends_86 : decode cX5_markBends 86 = .ok (.goto (-80), 3) := by decide +kernel
theorem dX5_markBends_89 : decode cX5_markBends 89 = .ok (.iload 4, 2) := by decide +kernel
theorem dX5_markBends_91 : decode cX5_markBends 91 = .ok (.ireturn, 1) := by decide +kernel
def fX5_markBends_83 (N : Nat) (k_6 : Int32 → Int32 → Int32 → Int32 → Int32 → Int32 → Int32 → List Int32 → List Int32 → List Int32 → List Int32 → List Int32 → Option (Int32 × List Int32)) (x1 : Int32) (x2 : Int32) (x3 : Int32) (x4 : Int32) (x5 : Int32) (v_rows : Int32) (v_cols : Int32) (v_rowOf : List Int32) (v_colOf : List Int32) (v_face : List Int32) (v_worn : List Int32) (v_bend : List Int32) : Option (Int32 × List Int32) :=
    mm_nm (x5 + (1 : Int32)) (fun (y_19 : Int32) =>
    k_6 x1 x2 x3 x4 y_19 v_rows v_cols v_rowOf v_colOf v_face v_worn v_bend)

set_option maxHeartbeats 4000000 in
set_option maxRecDepth 100000 in
theorem tX5_markBends_83 {p : Program} {l : Launch} {e : Env} {s : State} {m : MethodId} {args : Array Value} {below : List Frame} {meth : Method} {c : Code} {D : va_G} {cI cL cS cH : ClassId} {A : Nat → Prop} {d : Nat} {a : Nat → Nat} (hd : 4 ≤ d) (C0 : mm_Cx p s m args meth c RX5 cX5_markBends 7 (some .int) D (mm_T cI cL cS cH) A) (hA : ∀ q, s.heap.size ≤ q → A q) {v_high : Int32} {v_wide : Int32} {v_folds : Int32} {v_wrong : Int32} {v_more : Int32} {v_below : List Int32} {v_last : List Int32} {v_tall : List Int32} {r : Int32} {w_bend : List Int32} (N : Nat) {k_6 : Int32 → Int32 → Int32 → Int32 → Int32 → Int32 → Int32 → List Int32 → List Int32 → List Int32 → List Int32 → List Int32 → Option (Int32 × List Int32)} (hk_6 : ∀ (x1 : Int32) (x2 : Int32) (x3 : Int32) (x4 : Int32) (x5 : Int32) (v_rows : Int32) (v_cols : Int32) (v_rowOf : List Int32) (v_colOf : List Int32) (v_face : List Int32) (v_worn : List Int32) (v_bend : List Int32) (H : Heap) (locs : List Loc) (ls : Array Slot), k_6 x1 x2 x3 x4 x5 v_rows v_cols v_rowOf v_colOf v_face v_worn v_bend = some (r, w_bend) → va_P D mm_cl (wd_X5 cI cL cS cH a v_rows v_cols v_high v_wide v_folds v_wrong v_more v_rowOf v_colOf v_below v_face v_worn v_last v_bend v_tall) H → va_D A (wd_X5 cI cL cS cH a v_rows v_cols v_high v_wide v_folds v_wrong v_more v_rowOf v_colOf v_below v_face v_worn v_last v_bend v_tall) → va_S A s.heap H locs → lv_has ls 7 [(0, .ref (a 0)), (1, .int x1), (2, .int x2), (3, .int x3), (4, .int x4), (5, .int x5)] → W p l e (mm_rr d) s m args below meth c H locs 0 0 (mm_Z below D A (wd_X5 cI cL cS cH a v_rows v_cols v_high v_wide v_folds v_wrong v_more v_rowOf v_colOf v_below v_face v_worn v_last w_bend v_tall) (some (.int r)) args s) (F0 m 6 ls [])) : ∀ (x1 : Int32) (x2 : Int32) (x3 : Int32) (x4 : Int32) (x5 : Int32) (v_rows : Int32) (v_cols : Int32) (v_rowOf : List Int32) (v_colOf : List Int32) (v_face : List Int32) (v_worn : List Int32) (v_bend : List Int32) (H : Heap) (locs : List Loc) (ls : Array Slot), fX5_markBends_83 N k_6 x1 x2 x3 x4 x5 v_rows v_cols v_rowOf v_colOf v_face v_worn v_bend = some (r, w_bend) → va_P D mm_cl (wd_X5 cI cL cS cH a v_rows v_cols v_high v_wide v_folds v_wrong v_more v_rowOf v_colOf v_below v_face v_worn v_last v_bend v_tall) H → va_D A (wd_X5 cI cL cS cH a v_rows v_cols v_high v_wide v_folds v_wrong v_more v_rowOf v_colOf v_below v_face v_worn v_last v_bend v_tall) → va_S A s.heap H locs → lv_has ls 7 [(0, .ref (a 0)), (1, .int x1), (2, .int x2), (3, .int x3), (4, .int x4), (5, .int x5)] → W p l e (mm_rr d) s m args below meth c H locs 0 0 (mm_Z below D A (wd_X5 cI cL cS cH a v_rows v_cols v_high v_wide v_folds v_wrong v_more v_rowOf v_colOf v_below v_face v_worn v_last w_bend v_tall) (some (.int r)) args s) (F0 m 83 ls []) := by
  obtain ⟨hx, hb, hml, hown, hts, hr, hlocks, hK, hSt⟩ := id C0
  intro x1 x2 x3 x4 x5 v_rows v_cols v_rowOf v_colOf v_face v_worn v_bend H locs ls hf hP hD hS hl
  unfold fX5_markBends_83 at hf
  obtain ⟨y_19, ey_19⟩ : ∃ z : Int32, z = x5 + (1 : Int32) := ⟨_, rfl⟩
  have hf := mm_nms hf ey_19
  refine lv_iinc (v := y_19) (lv' := [(5, .int y_19), (0, .ref (a 0)), (1, .int x1), (2, .int x2), (3, .int x3), (4, .int x4)]) hx hb dX5_markBends_83 hl (k := 5) rfl (by rw [ey_19]; rfl) (by decide) rfl (fun ls hl => ?_)
  refine lv_goto (tgt := 6) hx hb dX5_markBends_86 (by decide) ?_
  exact hk_6 _ _ _ _ _ _ _ _ _ _ _ _ H locs ls hf hP hD hS (lv_sub hl [1, 2, 3, 4, 5, 0] rfl)

def fX5_markBends_69 (N : Nat) (k_6 : Int32 → Int32 → Int32 → Int32 → Int32 → Int32 → Int32 → List Int32 → List Int32 → List Int32 → List Int32 → List Int32 → Option (Int32 × List Int32)) (x1 : Int32) (x2 : Int32) (x3 : Int32) (x4 : Int32) (x5 : Int32) (s0 : Int32) (s1 : Int32) (v_rows : Int32) (v_cols : Int32) (v_rowOf : List Int32) (v_colOf : List Int32) (v_face : List Int32) (v_worn : List Int32) (v_bend : List Int32) : Option (Int32 × List Int32) :=
    mm_ck (mm_inb s1 v_bend.length) (mm_nm (mm_is v_bend s1 s0) (fun (l_15 : List Int32) =>
    mm_ck (mm_inb x5 l_15.length) (if (mm_ig l_15 x5) = 0 then
    (fX5_markBends_83 N k_6 x1 x2 x3 x4 x5 v_rows v_cols v_rowOf v_colOf v_face v_worn l_15)
    else (mm_nm (x4 + (1 : Int32)) (fun (y_18 : Int32) =>
    fX5_markBends_83 N k_6 x1 x2 x3 y_18 x5 v_rows v_cols v_rowOf v_colOf v_face v_worn l_15)))))

set_option maxHeartbeats 4000000 in
set_option maxRecDepth 100000 in
theorem tX5_markBends_69 {p : Program} {l : Launch} {e : Env} {s : State} {m : MethodId} {args : Array Value} {below : List Frame} {meth : Method} {c : Code} {D : va_G} {cI cL cS cH : ClassId} {A : Nat → Prop} {d : Nat} {a : Nat → Nat} (hd : 4 ≤ d) (C0 : mm_Cx p s m args meth c RX5 cX5_markBends 7 (some .int) D (mm_T cI cL cS cH) A) (hA : ∀ q, s.heap.size ≤ q → A q) {v_high : Int32} {v_wide : Int32} {v_folds : Int32} {v_wrong : Int32} {v_more : Int32} {v_below : List Int32} {v_last : List Int32} {v_tall : List Int32} {r : Int32} {w_bend : List Int32} (N : Nat) {k_6 : Int32 → Int32 → Int32 → Int32 → Int32 → Int32 → Int32 → List Int32 → List Int32 → List Int32 → List Int32 → List Int32 → Option (Int32 × List Int32)} (hk_6 : ∀ (x1 : Int32) (x2 : Int32) (x3 : Int32) (x4 : Int32) (x5 : Int32) (v_rows : Int32) (v_cols : Int32) (v_rowOf : List Int32) (v_colOf : List Int32) (v_face : List Int32) (v_worn : List Int32) (v_bend : List Int32) (H : Heap) (locs : List Loc) (ls : Array Slot), k_6 x1 x2 x3 x4 x5 v_rows v_cols v_rowOf v_colOf v_face v_worn v_bend = some (r, w_bend) → va_P D mm_cl (wd_X5 cI cL cS cH a v_rows v_cols v_high v_wide v_folds v_wrong v_more v_rowOf v_colOf v_below v_face v_worn v_last v_bend v_tall) H → va_D A (wd_X5 cI cL cS cH a v_rows v_cols v_high v_wide v_folds v_wrong v_more v_rowOf v_colOf v_below v_face v_worn v_last v_bend v_tall) → va_S A s.heap H locs → lv_has ls 7 [(0, .ref (a 0)), (1, .int x1), (2, .int x2), (3, .int x3), (4, .int x4), (5, .int x5)] → W p l e (mm_rr d) s m args below meth c H locs 0 0 (mm_Z below D A (wd_X5 cI cL cS cH a v_rows v_cols v_high v_wide v_folds v_wrong v_more v_rowOf v_colOf v_below v_face v_worn v_last w_bend v_tall) (some (.int r)) args s) (F0 m 6 ls [])) : ∀ (x1 : Int32) (x2 : Int32) (x3 : Int32) (x4 : Int32) (x5 : Int32) (s0 : Int32) (s1 : Int32) (v_rows : Int32) (v_cols : Int32) (v_rowOf : List Int32) (v_colOf : List Int32) (v_face : List Int32) (v_worn : List Int32) (v_bend : List Int32) (H : Heap) (locs : List Loc) (ls : Array Slot), fX5_markBends_69 N k_6 x1 x2 x3 x4 x5 s0 s1 v_rows v_cols v_rowOf v_colOf v_face v_worn v_bend = some (r, w_bend) → va_P D mm_cl (wd_X5 cI cL cS cH a v_rows v_cols v_high v_wide v_folds v_wrong v_more v_rowOf v_colOf v_below v_face v_worn v_last v_bend v_tall) H → va_D A (wd_X5 cI cL cS cH a v_rows v_cols v_high v_wide v_folds v_wrong v_more v_rowOf v_colOf v_below v_face v_worn v_last v_bend v_tall) → va_S A s.heap H locs → lv_has ls 7 [(0, .ref (a 0)), (1, .int x1), (2, .int x2), (3, .int x3), (4, .int x4), (5, .int x5)] → W p l e (mm_rr d) s m args below meth c H locs 0 0 (mm_Z below D A (wd_X5 cI cL cS cH a v_rows v_cols v_high v_wide v_folds v_wrong v_more v_rowOf v_colOf v_below v_face v_worn v_last w_bend v_tall) (some (.int r)) args s) (F0 m 69 ls [.int s0, .int s1, .ref (a 7)]) := by
  obtain ⟨hx, hb, hml, hown, hts, hr, hlocks, hK, hSt⟩ := id C0
  intro x1 x2 x3 x4 x5 s0 s1 v_rows v_cols v_rowOf v_colOf v_face v_worn v_bend H locs ls hf hP hD hS hl
  unfold fX5_markBends_69 at hf
  obtain ⟨h_14, hf⟩ := mm_cks hf
  refine mm_iast C0 hP hD hS 7 rfl h_14 dX5_markBends_69 (w2 := (wd_X5 cI cL cS cH a v_rows v_cols v_high v_wide v_folds v_wrong v_more v_rowOf v_colOf v_below v_face v_worn v_last (mm_is v_bend s1 s0) v_tall)) rfl (fun H locs hP hD hS => ?_)
  generalize el_15 : (mm_is v_bend s1 s0) = l_15 at hP hD
  have hf := mm_nms hf el_15.symm
  refine lv_aload_n hx hb dX5_markBends_70 rfl (lv_at hl 0 rfl) ?_
  refine mm_get C0 hP iw_X5 0 rfl rfl 13 (by decide) fl_X5_30 rfl dX5_markBends_71 ?_
  refine lv_iload hx hb dX5_markBends_74 (lv_at hl 5 rfl) ?_
  obtain ⟨h_16, hf⟩ := mm_cks hf
  refine mm_iald C0 hP 7 rfl h_16 dX5_markBends_76 ?_
  refine lv_if_eq (tgt := 83) hx hb dX5_markBends_77 (by decide) (fun c_17 => ?_) (fun c_17 => ?_)
  · have hf := mm_ip hf c_17
    exact tX5_markBends_83 hd C0 hA N hk_6 _ _ _ _ _ _ _ _ _ _ _ _ H locs ls hf hP hD hS (lv_sub hl [0, 1, 2, 3, 4, 5] rfl)
  · have hf := mm_in hf c_17
    obtain ⟨y_18, ey_18⟩ : ∃ z : Int32, z = x4 + (1 : Int32) := ⟨_, rfl⟩
    have hf := mm_nms hf ey_18
    refine lv_iinc (v := y_18) (lv' := [(4, .int y_18), (0, .ref (a 0)), (1, .int x1), (2, .int x2), (3, .int x3), (5, .int x5)]) hx hb dX5_markBends_80 hl (k := 4) rfl (by rw [ey_18]; rfl) (by decide) rfl (fun ls hl => ?_)
    exact tX5_markBends_83 hd C0 hA N hk_6 _ _ _ _ _ _ _ _ _ _ _ _ H locs ls hf hP hD hS (lv_sub hl [1, 2, 3, 4, 0, 5] rfl)

def fX5_markBends_53 (N : Nat) (k_6 : Int32 → Int32 → Int32 → Int32 → Int32 → Int32 → Int32 → List Int32 → List Int32 → List Int32 → List Int32 → List Int32 → Option (Int32 × List Int32)) (x1 : Int32) (x2 : Int32) (x3 : Int32) (x4 : Int32) (x5 : Int32) (s0 : Int32) (v_rows : Int32) (v_cols : Int32) (v_rowOf : List Int32) (v_colOf : List Int32) (v_face : List Int32) (v_worn : List Int32) (v_bend : List Int32) : Option (Int32 × List Int32) :=
    fX5_markBends_69 N k_6 x1 x2 x3 x4 x5 (0 : Int32) s0 v_rows v_cols v_rowOf v_colOf v_face v_worn v_bend

set_option maxHeartbeats 4000000 in
set_option maxRecDepth 100000 in
theorem tX5_markBends_53 {p : Program} {l : Launch} {e : Env} {s : State} {m : MethodId} {args : Array Value} {below : List Frame} {meth : Method} {c : Code} {D : va_G} {cI cL cS cH : ClassId} {A : Nat → Prop} {d : Nat} {a : Nat → Nat} (hd : 4 ≤ d) (C0 : mm_Cx p s m args meth c RX5 cX5_markBends 7 (some .int) D (mm_T cI cL cS cH) A) (hA : ∀ q, s.heap.size ≤ q → A q) {v_high : Int32} {v_wide : Int32} {v_folds : Int32} {v_wrong : Int32} {v_more : Int32} {v_below : List Int32} {v_last : List Int32} {v_tall : List Int32} {r : Int32} {w_bend : List Int32} (N : Nat) {k_6 : Int32 → Int32 → Int32 → Int32 → Int32 → Int32 → Int32 → List Int32 → List Int32 → List Int32 → List Int32 → List Int32 → Option (Int32 × List Int32)} (hk_6 : ∀ (x1 : Int32) (x2 : Int32) (x3 : Int32) (x4 : Int32) (x5 : Int32) (v_rows : Int32) (v_cols : Int32) (v_rowOf : List Int32) (v_colOf : List Int32) (v_face : List Int32) (v_worn : List Int32) (v_bend : List Int32) (H : Heap) (locs : List Loc) (ls : Array Slot), k_6 x1 x2 x3 x4 x5 v_rows v_cols v_rowOf v_colOf v_face v_worn v_bend = some (r, w_bend) → va_P D mm_cl (wd_X5 cI cL cS cH a v_rows v_cols v_high v_wide v_folds v_wrong v_more v_rowOf v_colOf v_below v_face v_worn v_last v_bend v_tall) H → va_D A (wd_X5 cI cL cS cH a v_rows v_cols v_high v_wide v_folds v_wrong v_more v_rowOf v_colOf v_below v_face v_worn v_last v_bend v_tall) → va_S A s.heap H locs → lv_has ls 7 [(0, .ref (a 0)), (1, .int x1), (2, .int x2), (3, .int x3), (4, .int x4), (5, .int x5)] → W p l e (mm_rr d) s m args below meth c H locs 0 0 (mm_Z below D A (wd_X5 cI cL cS cH a v_rows v_cols v_high v_wide v_folds v_wrong v_more v_rowOf v_colOf v_below v_face v_worn v_last w_bend v_tall) (some (.int r)) args s) (F0 m 6 ls [])) : ∀ (x1 : Int32) (x2 : Int32) (x3 : Int32) (x4 : Int32) (x5 : Int32) (s0 : Int32) (v_rows : Int32) (v_cols : Int32) (v_rowOf : List Int32) (v_colOf : List Int32) (v_face : List Int32) (v_worn : List Int32) (v_bend : List Int32) (H : Heap) (locs : List Loc) (ls : Array Slot), fX5_markBends_53 N k_6 x1 x2 x3 x4 x5 s0 v_rows v_cols v_rowOf v_colOf v_face v_worn v_bend = some (r, w_bend) → va_P D mm_cl (wd_X5 cI cL cS cH a v_rows v_cols v_high v_wide v_folds v_wrong v_more v_rowOf v_colOf v_below v_face v_worn v_last v_bend v_tall) H → va_D A (wd_X5 cI cL cS cH a v_rows v_cols v_high v_wide v_folds v_wrong v_more v_rowOf v_colOf v_below v_face v_worn v_last v_bend v_tall) → va_S A s.heap H locs → lv_has ls 7 [(0, .ref (a 0)), (1, .int x1), (2, .int x2), (3, .int x3), (4, .int x4), (5, .int x5)] → W p l e (mm_rr d) s m args below meth c H locs 0 0 (mm_Z below D A (wd_X5 cI cL cS cH a v_rows v_cols v_high v_wide v_folds v_wrong v_more v_rowOf v_colOf v_below v_face v_worn v_last w_bend v_tall) (some (.int r)) args s) (F0 m 53 ls [.int s0, .ref (a 7)]) := by
  obtain ⟨hx, hb, hml, hown, hts, hr, hlocks, hK, hSt⟩ := id C0
  intro x1 x2 x3 x4 x5 s0 v_rows v_cols v_rowOf v_colOf v_face v_worn v_bend H locs ls hf hP hD hS hl
  unfold fX5_markBends_53 at hf
  refine lv_iconst (v := 0) hx hb dX5_markBends_53 (by decide) ?_
  refine lv_goto (tgt := 69) hx hb dX5_markBends_54 (by decide) ?_
  exact tX5_markBends_69 hd C0 hA N hk_6 _ _ _ _ _ _ _ _ _ _ _ _ _ _ H locs ls hf hP hD hS (lv_sub hl [0, 1, 2, 3, 4, 5] rfl)

def fX5_markBends_6 (N : Nat)  : Nat → Int32 → Int32 → Int32 → Int32 → Int32 → Int32 → Int32 → List Int32 → List Int32 → List Int32 → List Int32 → List Int32 → Option (Int32 × List Int32)
  | 0 => fun _ _ _ _ _ _ _ _ _ _ _ _ => none
  | n + 1 => fun x1 x2 x3 x4 x5 v_rows v_cols v_rowOf v_colOf v_face v_worn v_bend =>
    mm_bd1 (fX5_fields N v_rows v_cols) (fun (r_1 : Int32) =>
    if ((2 : Int32) * r_1) ≤ x5 then
    (some (x4, v_bend))
    else (mm_ck (mm_nz (2 : Int32)) (mm_ck (mm_nz (2 : Int32)) (mm_bd1 (fX5_neighbour N (x5 / (2 : Int32)) (mm_rem x5 (2 : Int32)) v_rows v_cols) (fun (r_6 : Int32) =>
    if r_6 < 0 then
    (fX5_markBends_53 N (fX5_markBends_6 N n) x1 x2 x3 x4 x5 x5 v_rows v_cols v_rowOf v_colOf v_face v_worn v_bend)
    else (mm_ck (mm_inb x5 v_worn.length) (if (mm_ig v_worn x5) < x3 then
    (mm_ck (mm_nz (2 : Int32)) (mm_bd1 (fX5_bendBetween N (x5 / (2 : Int32)) r_6 x1 x2 v_rowOf v_colOf v_face) (fun (r_12 : Int32) =>
    fX5_markBends_69 N (fX5_markBends_6 N n) x1 x2 x3 x4 x5 r_12 x5 v_rows v_cols v_rowOf v_colOf v_face v_worn v_bend)))
    else (fX5_markBends_53 N (fX5_markBends_6 N n) x1 x2 x3 x4 x5 x5 v_rows v_cols v_rowOf v_colOf v_face v_worn v_bend))))))))

set_option maxHeartbeats 4000000 in
set_option maxRecDepth 100000 in
theorem tX5_markBends_6 {p : Program} {l : Launch} {e : Env} {s : State} {m : MethodId} {args : Array Value} {below : List Frame} {meth : Method} {c : Code} {D : va_G} {cI cL cS cH : ClassId} {A : Nat → Prop} {d : Nat} {a : Nat → Nat} (hd : 4 ≤ d) (C0 : mm_Cx p s m args meth c RX5 cX5_markBends 7 (some .int) D (mm_T cI cL cS cH) A) (hA : ∀ q, s.heap.size ≤ q → A q) {v_high : Int32} {v_wide : Int32} {v_folds : Int32} {v_wrong : Int32} {v_more : Int32} {v_below : List Int32} {v_last : List Int32} {v_tall : List Int32} {r : Int32} {w_bend : List Int32} (N : Nat)  : ∀ (n : Nat), ∀ (x1 : Int32) (x2 : Int32) (x3 : Int32) (x4 : Int32) (x5 : Int32) (v_rows : Int32) (v_cols : Int32) (v_rowOf : List Int32) (v_colOf : List Int32) (v_face : List Int32) (v_worn : List Int32) (v_bend : List Int32) (H : Heap) (locs : List Loc) (ls : Array Slot), fX5_markBends_6 N n x1 x2 x3 x4 x5 v_rows v_cols v_rowOf v_colOf v_face v_worn v_bend = some (r, w_bend) → va_P D mm_cl (wd_X5 cI cL cS cH a v_rows v_cols v_high v_wide v_folds v_wrong v_more v_rowOf v_colOf v_below v_face v_worn v_last v_bend v_tall) H → va_D A (wd_X5 cI cL cS cH a v_rows v_cols v_high v_wide v_folds v_wrong v_more v_rowOf v_colOf v_below v_face v_worn v_last v_bend v_tall) → va_S A s.heap H locs → lv_has ls 7 [(0, .ref (a 0)), (1, .int x1), (2, .int x2), (3, .int x3), (4, .int x4), (5, .int x5)] → W p l e (mm_rr d) s m args below meth c H locs 0 0 (mm_Z below D A (wd_X5 cI cL cS cH a v_rows v_cols v_high v_wide v_folds v_wrong v_more v_rowOf v_colOf v_below v_face v_worn v_last w_bend v_tall) (some (.int r)) args s) (F0 m 6 ls []) := by
  obtain ⟨hx, hb, hml, hown, hts, hr, hlocks, hK, hSt⟩ := id C0
  intro n
  induction n with
  | zero =>
    intro x1 x2 x3 x4 x5 v_rows v_cols v_rowOf v_colOf v_face v_worn v_bend H locs ls hf
    cases (show none = some _ from hf)
  | succ n ih =>
    intro x1 x2 x3 x4 x5 v_rows v_cols v_rowOf v_colOf v_face v_worn v_bend H locs ls hf hP hD hS hl
    unfold fX5_markBends_6 at hf
    refine lv_iload hx hb dX5_markBends_6 (lv_at hl 5 rfl) ?_
    refine lv_iconst (v := 2) hx hb dX5_markBends_8 (by decide) ?_
    refine lv_aload_n hx hb dX5_markBends_9 rfl (lv_at hl 0 rfl) ?_
    obtain ⟨r_1, hc_2, hf⟩ := mm_bd1s hf
    refine mm_callVF (q0 := 0) (ci := 5) (rest := [.int (2 : Int32), .int x5]) C0 lk_X5_84 (ctX5_fields (a := a) (d := d - 1) (by omega) hc_2) (by omega) rfl hl.1 rfl (mm_cat rfl) dX5_markBends_10 hP hD hA hS rfl rfl (fun H locs hP hD hS => ?_)
    refine W.eq (g2 := F0 m 13 ls [.int r_1, .int (2 : Int32), .int x5]) rfl ?_
    refine lv_imul hx hb dX5_markBends_13 ?_
    refine lv_icmp_ge (tgt := 89) hx hb dX5_markBends_14 (by decide) (fun c_3 => ?_) (fun c_3 => ?_)
    · have hf := mm_ip hf c_3
      refine lv_iload hx hb dX5_markBends_89 (lv_at hl 4 rfl) ?_
      apply mm_sub2 hf
      exact mm_iret C0 hP hD hS dX5_markBends_91
    · have hf := mm_in hf c_3
      refine lv_aload_n hx hb dX5_markBends_17 rfl (lv_at hl 0 rfl) ?_
      refine lv_iload hx hb dX5_markBends_18 (lv_at hl 5 rfl) ?_
      refine lv_iconst (v := 2) hx hb dX5_markBends_20 (by decide) ?_
      obtain ⟨h_4, hf⟩ := mm_cks hf
      refine lv_idiv hx hb dX5_markBends_21 (mm_nzs h_4) ?_
      refine lv_iload hx hb dX5_markBends_22 (lv_at hl 5 rfl) ?_
      refine lv_iconst (v := 2) hx hb dX5_markBends_24 (by decide) ?_
      obtain ⟨h_5, hf⟩ := mm_cks hf
      refine lv_irem hx hb dX5_markBends_25 (mm_nzs h_5) ?_
      obtain ⟨r_6, hc_7, hf⟩ := mm_bd1s hf
      refine mm_callVF (q0 := 0) (ci := 5) (rest := []) C0 lk_X5_118 (ctX5_neighbour (a := a) (d := d - 1) (by omega) hc_7) (by omega) rfl hl.1 rfl (mm_cat rfl) dX5_markBends_26 hP hD hA hS rfl rfl (fun H locs hP hD hS => ?_)
      refine W.eq (g2 := F0 m 29 ls [.int r_6]) rfl ?_
      refine lv_istore (lv' := [(6, .int r_6), (0, .ref (a 0)), (1, .int x1), (2, .int x2), (3, .int x3), (4, .int x4), (5, .int x5)]) hx hb dX5_markBends_29 hl (by decide) rfl (fun ls hl => ?_)
      refine lv_aload_n hx hb dX5_markBends_31 rfl (lv_at hl 1 rfl) ?_
      refine mm_get C0 hP iw_X5 0 rfl rfl 13 (by decide) fl_X5_30 rfl dX5_markBends_32 ?_
      refine lv_iload hx hb dX5_markBends_35 (lv_at hl 6 rfl) ?_
      refine lv_iload hx hb dX5_markBends_37 (lv_at hl 0 rfl) ?_
      refine lv_if_lt (tgt := 53) hx hb dX5_markBends_39 (by decide) (fun c_8 => ?_) (fun c_8 => ?_)
      · have hf := mm_ip hf c_8
        exact tX5_markBends_53 hd C0 hA N ih _ _ _ _ _ _ _ _ _ _ _ _ _ H locs ls hf hP hD hS (lv_sub hl [1, 2, 3, 4, 5, 6] rfl)
      · have hf := mm_in hf c_8
        refine lv_aload_n hx hb dX5_markBends_42 rfl (lv_at hl 1 rfl) ?_
        refine mm_get C0 hP iw_X5 0 rfl rfl 11 (by decide) fl_X5_24 rfl dX5_markBends_43 ?_
        refine lv_iload hx hb dX5_markBends_46 (lv_at hl 6 rfl) ?_
        obtain ⟨h_9, hf⟩ := mm_cks hf
        refine mm_iald C0 hP 5 rfl h_9 dX5_markBends_48 ?_
        refine lv_iload_n hx hb dX5_markBends_49 rfl (lv_at hl 4 rfl) ?_
        refine lv_icmp_lt (tgt := 57) hx hb dX5_markBends_50 (by decide) (fun c_10 => ?_) (fun c_10 => ?_)
        · have hf := mm_ip hf c_10
          refine lv_aload_n hx hb dX5_markBends_57 rfl (lv_at hl 1 rfl) ?_
          refine lv_iload hx hb dX5_markBends_58 (lv_at hl 6 rfl) ?_
          refine lv_iconst (v := 2) hx hb dX5_markBends_60 (by decide) ?_
          obtain ⟨h_11, hf⟩ := mm_cks hf
          refine lv_idiv hx hb dX5_markBends_61 (mm_nzs h_11) ?_
          refine lv_iload hx hb dX5_markBends_62 (lv_at hl 0 rfl) ?_
          refine lv_iload_n hx hb dX5_markBends_64 rfl (lv_at hl 2 rfl) ?_
          refine lv_iload_n hx hb dX5_markBends_65 rfl (lv_at hl 3 rfl) ?_
          obtain ⟨r_12, hc_13, hf⟩ := mm_bd1s hf
          refine mm_callVF (q0 := 0) (ci := 5) (rest := [.int x5, .ref (a 7)]) C0 lk_X5_131 (ctX5_bendBetween (a := a) (d := d - 1) (by omega) hc_13) (by omega) rfl hl.1 rfl (mm_cat rfl) dX5_markBends_66 hP hD hA hS rfl rfl (fun H locs hP hD hS => ?_)
          refine W.eq (g2 := F0 m 69 ls [.int r_12, .int x5, .ref (a 7)]) rfl ?_
          exact tX5_markBends_69 hd C0 hA N ih _ _ _ _ _ _ _ _ _ _ _ _ _ _ H locs ls hf hP hD hS (lv_sub hl [1, 2, 3, 4, 5, 6] rfl)
        · have hf := mm_in hf c_10
          exact tX5_markBends_53 hd C0 hA N ih _ _ _ _ _ _ _ _ _ _ _ _ _ H locs ls hf hP hD hS (lv_sub hl [1, 2, 3, 4, 5, 6] rfl)

def fX5_markBends (N : Nat) (x1 : Int32) (x2 : Int32) (x3 : Int32) (v_rows : Int32) (v_cols : Int32) (v_rowOf : List Int32) (v_colOf : List Int32) (v_face : List Int32) (v_worn : List Int32) (v_bend : List Int32) : Option (Int32 × List Int32) :=
    fX5_markBends_6 N N x1 x2 x3 (0 : Int32) (0 : Int32) v_rows v_cols v_rowOf v_colOf v_face v_worn v_bend

set_option maxHeartbeats 4000000 in
set_option maxRecDepth 100000 in
theorem ctX5_markBends {l : Launch} {D : va_G} {cI cL cS cH : ClassId} {a : Nat → Nat} {x1 : Int32} {x2 : Int32} {x3 : Int32} {v_rows : Int32} {v_cols : Int32} {v_high : Int32} {v_wide : Int32} {v_folds : Int32} {v_wrong : Int32} {v_more : Int32} {v_rowOf : List Int32} {v_colOf : List Int32} {v_below : List Int32} {v_face : List Int32} {v_worn : List Int32} {v_last : List Int32} {v_bend : List Int32} {v_tall : List Int32} {r : Int32} {w_bend : List Int32} {N d : Nat} (hd : 4 ≤ d) (hf : fX5_markBends N x1 x2 x3 v_rows v_cols v_rowOf v_colOf v_face v_worn v_bend = some (r, w_bend)) : mm_Ct l yX5_markBends cX5_markBends 7 (some .int) d D (mm_T cI cL cS cH) [.ref (a 0), .int x1, .int x2, .int x3] (wd_X5 cI cL cS cH a v_rows v_cols v_high v_wide v_folds v_wrong v_more v_rowOf v_colOf v_below v_face v_worn v_last v_bend v_tall) (wd_X5 cI cL cS cH a v_rows v_cols v_high v_wide v_folds v_wrong v_more v_rowOf v_colOf v_below v_face v_worn v_last w_bend v_tall) (some (.int r)) := by
  refine mm_of (by decide) (Nat.le_of_ble_eq_true rfl) ?_
  intro p e s m args below meth c A H locs ls C0 hP hD hA hS hl
  have C0 : mm_Cx p s m args meth c RX5 cX5_markBends 7 (some .int) D (mm_T cI cL cS cH) A := C0
  obtain ⟨hx, hb, hml, hown, hts, hr, hlocks, hK, hSt⟩ := id C0
  have hl : lv_has ls 7 [(0, .ref (a 0)), (1, .int x1), (2, .int x2), (3, .int x3)] := hl
  unfold fX5_markBends at hf
  refine lv_iconst (v := 0) hx hb dX5_markBends_0 (by decide) ?_
  refine lv_istore (lv' := [(4, .int (0 : Int32)), (0, .ref (a 0)), (1, .int x1), (2, .int x2), (3, .int x3)]) hx hb dX5_markBends_1 hl (by decide) rfl (fun ls hl => ?_)
  refine lv_iconst (v := 0) hx hb dX5_markBends_3 (by decide) ?_
  refine lv_istore (lv' := [(5, .int (0 : Int32)), (4, .int (0 : Int32)), (0, .ref (a 0)), (1, .int x1), (2, .int x2), (3, .int x3)]) hx hb dX5_markBends_4 hl (by decide) rfl (fun ls hl => ?_)
  exact tX5_markBends_6 hd C0 hA N  N _ _ _ _ _ _ _ _ _ _ _ _ H locs ls hf hP hD hS (lv_sub hl [2, 3, 4, 5, 1, 0] rfl)

theorem dX5_measurePiles_0 : decode cX5_measurePiles 0 = .ok (.aload_n 0, 1) := by decide +kernel
theorem dX5_measurePiles_1 : decode cX5_measurePiles 1 = .ok (.getfield 33, 3) := by decide +kernel
theorem dX5_measurePiles_4 : decode cX5_measurePiles 4 = .ok (.iconst 0, 1) := by decide +kernel
theorem dX5_measurePiles_5 : decode cX5_measurePiles 5 = .ok (.invokestatic 47, 3) := by decide +kernel
theorem dX5_measurePiles_8 : decode cX5_measurePiles 8 = .ok (.iconst 0, 1) := by decide +kernel
theorem dX5_measurePiles_9 : decode cX5_measurePiles 9 = .ok (.istore_n 1, 1) := by decide +kernel
theorem dX5_measurePiles_10 : decode cX5_measurePiles 10 = .ok (.iload_n 1, 1) := by decide +kernel
theorem dX5_measurePiles_11 : decode cX5_measurePiles 11 = .ok (.aload_n 0, 1) := by decide +kernel
theorem dX5_measurePiles_12 : decode cX5_measurePiles 12 = .ok (.invokevirtual 84, 3) := by decide +kernel
theorem dX5_measurePiles_15 : decode cX5_measurePiles 15 = .ok (.if_icmp .ge 34, 3) := by decide +kernel
theorem dX5_measurePiles_18 : decode cX5_measurePiles 18 = .ok (.aload_n 0, 1) := by decide +kernel
theorem dX5_measurePiles_19 : decode cX5_measurePiles 19 = .ok (.getfield 33, 3) := by decide +kernel
theorem dX5_measurePiles_22 : decode cX5_measurePiles 22 = .ok (.aload_n 0, 1) := by decide +kernel
theorem dX5_measurePiles_23 : decode cX5_measurePiles 23 = .ok (.getfield 9, 3) := by decide +kernel
theorem dX5_measurePiles_26 : decode cX5_measurePiles 26 = .ok (.iload_n 1, 1) := by decide +kernel
theorem dX5_measurePiles_27 : decode cX5_measurePiles 27 = .ok (.iaload, 1) := by decide +kernel
theorem dX5_measurePiles_28 : decode cX5_measurePiles 28 = .ok (.bipush 8, 2) := by decide +kernel
theorem dX5_measurePiles_30 : decode cX5_measurePiles 30 = .ok (.imul, 1) := by decide +kernel
theorem dX5_measurePiles_31 : decode cX5_measurePiles 31 = .ok (.aload_n 0, 1) := by decide +kernel
theorem dX5_measurePiles_32 : decode cX5_measurePiles 32 = .ok (.getfield 15, 3) := by decide +kernel
theorem dX5_measurePiles_35 : decode cX5_measurePiles 35 = .ok (.iload_n 1, 1) := by decide +kernel
theorem dX5_measurePiles_36 : decode cX5_measurePiles 36 = .ok (.iaload, 1) := by decide +kernel
theorem dX5_measurePiles_37 : decode cX5_measurePiles 37 = .ok (.iadd, 1) := by decide +kernel
theorem dX5_measurePiles_38 : decode cX5_measurePiles 38 = .ok (.dup2, 1) := by decide +kernel
theorem dX5_measurePiles_39 : decode cX5_measurePiles 39 = .ok (.iaload, 1) := by decide +kernel
theorem dX5_measurePiles_40 : decode cX5_measurePiles 40 = .ok (.iconst 1, 1) := by decide +kernel
theorem dX5_measurePiles_41 : decode cX5_measurePiles 41 = .ok (.iadd, 1) := by decide +kernel
theorem dX5_measurePiles_42 : decode cX5_measurePiles 42 = .ok (.iastore, 1) := by decide +kernel
theorem dX5_measurePiles_43 : decode cX5_measurePiles 43 = .ok (.iinc 1 1, 3) := by decide +kernel
theorem dX5_measurePiles_46 : decode cX5_measurePiles 46 = .ok (.goto (-36), 3) := by decide +kernel
theorem dX5_measurePiles_49 : decode cX5_measurePiles 49 = .ok (.return_, 1) := by decide +kernel
def fX5_measurePiles_10 (N : Nat)  : Nat → Int32 → Int32 → Int32 → List Int32 → List Int32 → List Int32 → Option (List Int32)
  | 0 => fun _ _ _ _ _ _ => none
  | n + 1 => fun x1 v_rows v_cols v_rowOf v_colOf v_tall =>
    mm_bd1 (fX5_fields N v_rows v_cols) (fun (r_3 : Int32) =>
    if r_3 ≤ x1 then
    (some (v_tall))
    else (mm_ck (mm_inb x1 v_rowOf.length) (mm_ck (mm_inb x1 v_colOf.length) (mm_ck (mm_inb (((mm_ig v_rowOf x1) * (8 : Int32)) + (mm_ig v_colOf x1)) v_tall.length) (mm_nm (((mm_ig v_tall (((mm_ig v_rowOf x1) * (8 : Int32)) + (mm_ig v_colOf x1))) + (1 : Int32))) (fun (y_9 : Int32) =>
    mm_ck (mm_inb (((mm_ig v_rowOf x1) * (8 : Int32)) + (mm_ig v_colOf x1)) v_tall.length) (mm_nm (mm_is v_tall (((mm_ig v_rowOf x1) * (8 : Int32)) + (mm_ig v_colOf x1)) y_9) (fun (l_11 : List Int32) =>
    mm_nm (x1 + (1 : Int32)) (fun (y_12 : Int32) =>
    fX5_measurePiles_10 N n y_12 v_rows v_cols v_rowOf v_colOf l_11)))))))))

set_option maxHeartbeats 4000000 in
set_option maxRecDepth 100000 in
theorem tX5_measurePiles_10 {p : Program} {l : Launch} {e : Env} {s : State} {m : MethodId} {args : Array Value} {below : List Frame} {meth : Method} {c : Code} {D : va_G} {cI cL cS cH : ClassId} {A : Nat → Prop} {d : Nat} {a : Nat → Nat} (hd : 2 ≤ d) (C0 : mm_Cx p s m args meth c RX5 cX5_measurePiles 2 none D (mm_T cI cL cS cH) A) (hA : ∀ q, s.heap.size ≤ q → A q) {v_high : Int32} {v_wide : Int32} {v_folds : Int32} {v_wrong : Int32} {v_more : Int32} {v_below : List Int32} {v_face : List Int32} {v_worn : List Int32} {v_last : List Int32} {v_bend : List Int32} {w_tall : List Int32} (N : Nat)  : ∀ (n : Nat), ∀ (x1 : Int32) (v_rows : Int32) (v_cols : Int32) (v_rowOf : List Int32) (v_colOf : List Int32) (v_tall : List Int32) (H : Heap) (locs : List Loc) (ls : Array Slot), fX5_measurePiles_10 N n x1 v_rows v_cols v_rowOf v_colOf v_tall = some w_tall → va_P D mm_cl (wd_X5 cI cL cS cH a v_rows v_cols v_high v_wide v_folds v_wrong v_more v_rowOf v_colOf v_below v_face v_worn v_last v_bend v_tall) H → va_D A (wd_X5 cI cL cS cH a v_rows v_cols v_high v_wide v_folds v_wrong v_more v_rowOf v_colOf v_below v_face v_worn v_last v_bend v_tall) → va_S A s.heap H locs → lv_has ls 2 [(0, .ref (a 0)), (1, .int x1)] → W p l e (mm_rr d) s m args below meth c H locs 0 0 (mm_Z below D A (wd_X5 cI cL cS cH a v_rows v_cols v_high v_wide v_folds v_wrong v_more v_rowOf v_colOf v_below v_face v_worn v_last v_bend w_tall) none args s) (F0 m 10 ls []) := by
  obtain ⟨hx, hb, hml, hown, hts, hr, hlocks, hK, hSt⟩ := id C0
  intro n
  induction n with
  | zero =>
    intro x1 v_rows v_cols v_rowOf v_colOf v_tall H locs ls hf
    cases (show none = some _ from hf)
  | succ n ih =>
    intro x1 v_rows v_cols v_rowOf v_colOf v_tall H locs ls hf hP hD hS hl
    unfold fX5_measurePiles_10 at hf
    refine lv_iload_n hx hb dX5_measurePiles_10 rfl (lv_at hl 1 rfl) ?_
    refine lv_aload_n hx hb dX5_measurePiles_11 rfl (lv_at hl 0 rfl) ?_
    obtain ⟨r_3, hc_4, hf⟩ := mm_bd1s hf
    refine mm_callVF (q0 := 0) (ci := 5) (rest := [.int x1]) C0 lk_X5_84 (ctX5_fields (a := a) (d := d - 1) (by omega) hc_4) (by omega) rfl hl.1 rfl (mm_cat rfl) dX5_measurePiles_12 hP hD hA hS rfl rfl (fun H locs hP hD hS => ?_)
    refine W.eq (g2 := F0 m 15 ls [.int r_3, .int x1]) rfl ?_
    refine lv_icmp_ge (tgt := 49) hx hb dX5_measurePiles_15 (by decide) (fun c_5 => ?_) (fun c_5 => ?_)
    · have hf := mm_ip hf c_5
      obtain rfl := mm_inj1 hf
      exact mm_vret C0 hP hD hS dX5_measurePiles_49
    · have hf := mm_in hf c_5
      refine lv_aload_n hx hb dX5_measurePiles_18 rfl (lv_at hl 0 rfl) ?_
      refine mm_get C0 hP iw_X5 0 rfl rfl 14 (by decide) fl_X5_33 rfl dX5_measurePiles_19 ?_
      refine lv_aload_n hx hb dX5_measurePiles_22 rfl (lv_at hl 0 rfl) ?_
      refine mm_get C0 hP iw_X5 0 rfl rfl 7 (by decide) fl_X5_9 rfl dX5_measurePiles_23 ?_
      refine lv_iload_n hx hb dX5_measurePiles_26 rfl (lv_at hl 1 rfl) ?_
      obtain ⟨h_6, hf⟩ := mm_cks hf
      refine mm_iald C0 hP 1 rfl h_6 dX5_measurePiles_27 ?_
      refine lv_bipush (v := 8) hx hb dX5_measurePiles_28 (by decide) ?_
      refine lv_imul hx hb dX5_measurePiles_30 ?_
      refine lv_aload_n hx hb dX5_measurePiles_31 rfl (lv_at hl 0 rfl) ?_
      refine mm_get C0 hP iw_X5 0 rfl rfl 8 (by decide) fl_X5_15 rfl dX5_measurePiles_32 ?_
      refine lv_iload_n hx hb dX5_measurePiles_35 rfl (lv_at hl 1 rfl) ?_
      obtain ⟨h_7, hf⟩ := mm_cks hf
      refine mm_iald C0 hP 2 rfl h_7 dX5_measurePiles_36 ?_
      refine lv_iadd hx hb dX5_measurePiles_37 ?_
      refine lv_dup2_11 hx hb dX5_measurePiles_38 rfl rfl ?_
      obtain ⟨h_8, hf⟩ := mm_cks hf
      refine mm_iald C0 hP 8 rfl h_8 dX5_measurePiles_39 ?_
      refine lv_iconst (v := 1) hx hb dX5_measurePiles_40 (by decide) ?_
      refine lv_iadd hx hb dX5_measurePiles_41 ?_
      refine lv_topi (fun y_9 ey_9 => ?_)
      have hf := mm_nms hf ey_9
      obtain ⟨h_10, hf⟩ := mm_cks hf
      refine mm_iast C0 hP hD hS 8 rfl h_10 dX5_measurePiles_42 (w2 := (wd_X5 cI cL cS cH a v_rows v_cols v_high v_wide v_folds v_wrong v_more v_rowOf v_colOf v_below v_face v_worn v_last v_bend (mm_is v_tall (((mm_ig v_rowOf x1) * (8 : Int32)) + (mm_ig v_colOf x1)) y_9))) rfl (fun H locs hP hD hS => ?_)
      generalize el_11 : (mm_is v_tall (((mm_ig v_rowOf x1) * (8 : Int32)) + (mm_ig v_colOf x1)) y_9) = l_11 at hP hD
      have hf := mm_nms hf el_11.symm
      obtain ⟨y_12, ey_12⟩ : ∃ z : Int32, z = x1 + (1 : Int32) := ⟨_, rfl⟩
      have hf := mm_nms hf ey_12
      refine lv_iinc (v := y_12) (lv' := [(1, .int y_12), (0, .ref (a 0))]) hx hb dX5_measurePiles_43 hl (k := 1) rfl (by rw [ey_12]; rfl) (by decide) rfl (fun ls hl => ?_)
      refine lv_goto (tgt := 10) hx hb dX5_measurePiles_46 (by decide) ?_
      exact ih _ _ _ _ _ _ H locs ls hf hP hD hS (lv_sub hl [1, 0] rfl)

def fX5_measurePiles (N : Nat) (v_rows : Int32) (v_cols : Int32) (v_rowOf : List Int32) (v_colOf : List Int32) (v_tall : List Int32) : Option (List Int32) :=
    mm_bd1 (fJ7_fill_53178 N (0 : Int32) v_tall) (fun (w_1 : List Int32) =>
    fX5_measurePiles_10 N N (0 : Int32) v_rows v_cols v_rowOf v_colOf w_1)

set_option maxHeartbeats 4000000 in
set_option maxRecDepth 100000 in
theorem ctX5_measurePiles {l : Launch} {D : va_G} {cI cL cS cH : ClassId} {a : Nat → Nat}  {v_rows : Int32} {v_cols : Int32} {v_high : Int32} {v_wide : Int32} {v_folds : Int32} {v_wrong : Int32} {v_more : Int32} {v_rowOf : List Int32} {v_colOf : List Int32} {v_below : List Int32} {v_face : List Int32} {v_worn : List Int32} {v_last : List Int32} {v_bend : List Int32} {v_tall : List Int32} {w_tall : List Int32} {N d : Nat} (hd : 2 ≤ d) (hf : fX5_measurePiles N v_rows v_cols v_rowOf v_colOf v_tall = some w_tall) : mm_Ct l yX5_measurePiles cX5_measurePiles 2 none d D (mm_T cI cL cS cH) [.ref (a 0)] (wd_X5 cI cL cS cH a v_rows v_cols v_high v_wide v_folds v_wrong v_more v_rowOf v_colOf v_below v_face v_worn v_last v_bend v_tall) (wd_X5 cI cL cS cH a v_rows v_cols v_high v_wide v_folds v_wrong v_more v_rowOf v_colOf v_below v_face v_worn v_last v_bend w_tall) none := by
  refine mm_of (by decide) (Nat.le_of_ble_eq_true rfl) ?_
  intro p e s m args below meth c A H locs ls C0 hP hD hA hS hl
  have C0 : mm_Cx p s m args meth c RX5 cX5_measurePiles 2 none D (mm_T cI cL cS cH) A := C0
  obtain ⟨hx, hb, hml, hown, hts, hr, hlocks, hK, hSt⟩ := id C0
  have hl : lv_has ls 2 [(0, .ref (a 0))] := hl
  unfold fX5_measurePiles at hf
  refine lv_aload_n hx hb dX5_measurePiles_0 rfl (lv_at hl 0 rfl) ?_
  refine mm_get C0 hP iw_X5 0 rfl rfl 14 (by decide) fl_X5_33 rfl dX5_measurePiles_1 ?_
  refine lv_iconst (v := 0) hx hb dX5_measurePiles_4 (by decide) ?_
  obtain ⟨w_1, hc_2, hf⟩ := mm_bd1s hf
  refine mm_callT (w2 := (wd_X5 cI cL cS cH a v_rows v_cols v_high v_wide v_folds v_wrong v_more v_rowOf v_colOf v_below v_face v_worn v_last v_bend w_1)) (rest := []) C0 lk_X5_47 (ctJ7_fill_53178 (a := (fun k => a (k + 8))) (d := d - 1) (by omega) hc_2) (by omega) rfl hl.1 rfl (mm_cat rfl) dX5_measurePiles_5 hP hD hA hS [false, false, false, false, false, false, false, false, true] rfl rfl rfl rfl (fun H locs hP hD hS => ?_)
  refine W.eq (g2 := F0 m 8 ls []) rfl ?_
  refine lv_iconst (v := 0) hx hb dX5_measurePiles_8 (by decide) ?_
  refine lv_istore_n (lv' := [(1, .int (0 : Int32)), (0, .ref (a 0))]) hx hb dX5_measurePiles_9 rfl hl (by decide) rfl (fun ls hl => ?_)
  exact tX5_measurePiles_10 hd C0 hA N  N _ _ _ _ _ _ H locs ls hf hP hD hS (lv_sub hl [1, 0] rfl)

theorem dX5_narrow_0 : decode cX5_narrow 0 = .ok (.iload_n 1, 1) := by decide +kernel
theorem dX5_narrow_1 : decode cX5_narrow 1 = .ok (.iconst 4, 1) := by decide +kernel
theorem dX5_narrow_2 : decode cX5_narrow 2 = .ok (.if_icmp .ge 11, 3) := by decide +kernel
theorem dX5_narrow_5 : decode cX5_narrow 5 = .ok (.aload_n 0, 1) := by decide +kernel
theorem dX5_narrow_6 : decode cX5_narrow 6 = .ok (.iload_n 2, 1) := by decide +kernel
theorem dX5_narrow_7 : decode cX5_narrow 7 = .ok (.putfield 71, 3) := by decide +kernel
theorem dX5_narrow_10 : decode cX5_narrow 10 = .ok (.goto 8, 3) := by decide +kernel
theorem dX5_narrow_13 : decode cX5_narrow 13 = .ok (.aload_n 0, 1) := by decide +kernel
theorem dX5_narrow_14 : decode cX5_narrow 14 = .ok (.iload_n 2, 1) := by decide +kernel
theorem dX5_narrow_15 : decode cX5_narrow 15 = .ok (.putfield 68, 3) := by decide +kernel
theorem dX5_narrow_18 : decode cX5_narrow 18 = .ok (.return_, 1) := by decide +kernel
def fX5_narrow (N : Nat) (x1 : Int32) (x2 : Int32) (v_high : Int32) (v_wide : Int32) : Option (Int32 × Int32) :=
    if (4 : Int32) ≤ x1 then
    (some (x2, v_wide))
    else (some (v_high, x2))

set_option maxHeartbeats 4000000 in
set_option maxRecDepth 100000 in
theorem ctX5_narrow {l : Launch} {D : va_G} {cI cL cS cH : ClassId} {a : Nat → Nat} {x1 : Int32} {x2 : Int32} {v_rows : Int32} {v_cols : Int32} {v_high : Int32} {v_wide : Int32} {v_folds : Int32} {v_wrong : Int32} {v_more : Int32} {v_rowOf : List Int32} {v_colOf : List Int32} {v_below : List Int32} {v_face : List Int32} {v_worn : List Int32} {v_last : List Int32} {v_bend : List Int32} {v_tall : List Int32} {w_high : Int32} {w_wide : Int32} {N d : Nat} (hd : 1 ≤ d) (hf : fX5_narrow N x1 x2 v_high v_wide = some (w_high, w_wide)) : mm_Ct l yX5_narrow cX5_narrow 3 none d D (mm_T cI cL cS cH) [.ref (a 0), .int x1, .int x2] (wd_X5 cI cL cS cH a v_rows v_cols v_high v_wide v_folds v_wrong v_more v_rowOf v_colOf v_below v_face v_worn v_last v_bend v_tall) (wd_X5 cI cL cS cH a v_rows v_cols w_high w_wide v_folds v_wrong v_more v_rowOf v_colOf v_below v_face v_worn v_last v_bend v_tall) none := by
  refine mm_of (by decide) (Nat.le_of_ble_eq_true rfl) ?_
  intro p e s m args below meth c A H locs ls C0 hP hD hA hS hl
  have C0 : mm_Cx p s m args meth c RX5 cX5_narrow 3 none D (mm_T cI cL cS cH) A := C0
  obtain ⟨hx, hb, hml, hown, hts, hr, hlocks, hK, hSt⟩ := id C0
  have hl : lv_has ls 3 [(0, .ref (a 0)), (1, .int x1), (2, .int x2)] := hl
  unfold fX5_narrow at hf
  refine lv_iload_n hx hb dX5_narrow_0 rfl (lv_at hl 1 rfl) ?_
  refine lv_iconst (v := 4) hx hb dX5_narrow_1 (by decide) ?_
  refine lv_icmp_ge (tgt := 13) hx hb dX5_narrow_2 (by decide) (fun c_1 => ?_) (fun c_1 => ?_)
  · have hf := mm_ip hf c_1
    refine lv_aload_n hx hb dX5_narrow_13 rfl (lv_at hl 0 rfl) ?_
    refine lv_iload_n hx hb dX5_narrow_14 rfl (lv_at hl 2 rfl) ?_
    refine mm_put C0 hP hD hS iw_X5 tyX5 tyX5_ok nmX5 0 rfl rfl 2 (by decide) fl_X5_68 rfl rfl rfl (Nat.le_of_ble_eq_true rfl) dX5_narrow_15 (w2 := (wd_X5 cI cL cS cH a v_rows v_cols x2 v_wide v_folds v_wrong v_more v_rowOf v_colOf v_below v_face v_worn v_last v_bend v_tall)) rfl (fun H locs hP hD hS => ?_)
    apply mm_sub2 hf
    exact mm_vret C0 hP hD hS dX5_narrow_18
  · have hf := mm_in hf c_1
    refine lv_aload_n hx hb dX5_narrow_5 rfl (lv_at hl 0 rfl) ?_
    refine lv_iload_n hx hb dX5_narrow_6 rfl (lv_at hl 2 rfl) ?_
    refine mm_put C0 hP hD hS iw_X5 tyX5 tyX5_ok nmX5 0 rfl rfl 3 (by decide) fl_X5_71 rfl rfl rfl (Nat.le_of_ble_eq_true rfl) dX5_narrow_7 (w2 := (wd_X5 cI cL cS cH a v_rows v_cols v_high x2 v_folds v_wrong v_more v_rowOf v_colOf v_below v_face v_worn v_last v_bend v_tall)) rfl (fun H locs hP hD hS => ?_)
    refine lv_goto (tgt := 18) hx hb dX5_narrow_10 (by decide) ?_
    apply mm_sub2 hf
    exact mm_vret C0 hP hD hS dX5_narrow_18

theorem dX5_setAlong_0 : decode cX5_setAlong 0 = .ok (.iload_n 2, 1) := by decide +kernel
theorem dX5_setAlong_1 : decode cX5_setAlong 1 = .ok (.iconst 4, 1) := by decide +kernel
theorem dX5_setAlong_2 : decode cX5_setAlong 2 = .ok (.if_icmp .ge 13, 3) := by decide +kernel
theorem dX5_setAlong_5 : decode cX5_setAlong 5 = .ok (.aload_n 0, 1) := by decide +kernel
theorem dX5_setAlong_6 : decode cX5_setAlong 6 = .ok (.getfield 15, 3) := by decide +kernel
theorem dX5_setAlong_9 : decode cX5_setAlong 9 = .ok (.iload_n 1, 1) := by decide +kernel
theorem dX5_setAlong_10 : decode cX5_setAlong 10 = .ok (.iload_n 3, 1) := by decide +kernel
theorem dX5_setAlong_11 : decode cX5_setAlong 11 = .ok (.iastore, 1) := by decide +kernel
theorem dX5_setAlong_12 : decode cX5_setAlong 12 = .ok (.goto 10, 3) := by decide +kernel
theorem dX5_setAlong_15 : decode cX5_setAlong 15 = .ok (.aload_n 0, 1) := by decide +kernel
theorem dX5_setAlong_16 : decode cX5_setAlong 16 = .ok (.getfield 9, 3) := by decide +kernel
theorem dX5_setAlong_19 : decode cX5_setAlong 19 = .ok (.iload_n 1, 1) := by decide +kernel
theorem dX5_setAlong_20 : decode cX5_setAlong 20 = .ok (.iload_n 3, 1) := by decide +kernel
theorem dX5_setAlong_21 : decode cX5_setAlong 21 = .ok (.iastore, 1) := by decide +kernel
theorem dX5_setAlong_22 : decode cX5_setAlong 22 = .ok (.return_, 1) := by decide +kernel
def fX5_setAlong (N : Nat) (x1 : Int32) (x2 : Int32) (x3 : Int32) (v_rowOf : List Int32) (v_colOf : List Int32) : Option (List Int32 × List Int32) :=
    if (4 : Int32) ≤ x2 then
    (mm_ck (mm_inb x1 v_rowOf.length) (mm_nm (mm_is v_rowOf x1 x3) (fun (l_3 : List Int32) =>
    some (l_3, v_colOf))))
    else (mm_ck (mm_inb x1 v_colOf.length) (mm_nm (mm_is v_colOf x1 x3) (fun (l_5 : List Int32) =>
    some (v_rowOf, l_5))))

set_option maxHeartbeats 4000000 in
set_option maxRecDepth 100000 in
theorem ctX5_setAlong {l : Launch} {D : va_G} {cI cL cS cH : ClassId} {a : Nat → Nat} {x1 : Int32} {x2 : Int32} {x3 : Int32} {v_rows : Int32} {v_cols : Int32} {v_high : Int32} {v_wide : Int32} {v_folds : Int32} {v_wrong : Int32} {v_more : Int32} {v_rowOf : List Int32} {v_colOf : List Int32} {v_below : List Int32} {v_face : List Int32} {v_worn : List Int32} {v_last : List Int32} {v_bend : List Int32} {v_tall : List Int32} {w_rowOf : List Int32} {w_colOf : List Int32} {N d : Nat} (hd : 1 ≤ d) (hf : fX5_setAlong N x1 x2 x3 v_rowOf v_colOf = some (w_rowOf, w_colOf)) : mm_Ct l yX5_setAlong cX5_setAlong 4 none d D (mm_T cI cL cS cH) [.ref (a 0), .int x1, .int x2, .int x3] (wd_X5 cI cL cS cH a v_rows v_cols v_high v_wide v_folds v_wrong v_more v_rowOf v_colOf v_below v_face v_worn v_last v_bend v_tall) (wd_X5 cI cL cS cH a v_rows v_cols v_high v_wide v_folds v_wrong v_more w_rowOf w_colOf v_below v_face v_worn v_last v_bend v_tall) none := by
  refine mm_of (by decide) (Nat.le_of_ble_eq_true rfl) ?_
  intro p e s m args below meth c A H locs ls C0 hP hD hA hS hl
  have C0 : mm_Cx p s m args meth c RX5 cX5_setAlong 4 none D (mm_T cI cL cS cH) A := C0
  obtain ⟨hx, hb, hml, hown, hts, hr, hlocks, hK, hSt⟩ := id C0
  have hl : lv_has ls 4 [(0, .ref (a 0)), (1, .int x1), (2, .int x2), (3, .int x3)] := hl
  unfold fX5_setAlong at hf
  refine lv_iload_n hx hb dX5_setAlong_0 rfl (lv_at hl 2 rfl) ?_
  refine lv_iconst (v := 4) hx hb dX5_setAlong_1 (by decide) ?_
  refine lv_icmp_ge (tgt := 15) hx hb dX5_setAlong_2 (by decide) (fun c_1 => ?_) (fun c_1 => ?_)
  · have hf := mm_ip hf c_1
    refine lv_aload_n hx hb dX5_setAlong_15 rfl (lv_at hl 0 rfl) ?_
    refine mm_get C0 hP iw_X5 0 rfl rfl 7 (by decide) fl_X5_9 rfl dX5_setAlong_16 ?_
    refine lv_iload_n hx hb dX5_setAlong_19 rfl (lv_at hl 1 rfl) ?_
    refine lv_iload_n hx hb dX5_setAlong_20 rfl (lv_at hl 3 rfl) ?_
    obtain ⟨h_2, hf⟩ := mm_cks hf
    refine mm_iast C0 hP hD hS 1 rfl h_2 dX5_setAlong_21 (w2 := (wd_X5 cI cL cS cH a v_rows v_cols v_high v_wide v_folds v_wrong v_more (mm_is v_rowOf x1 x3) v_colOf v_below v_face v_worn v_last v_bend v_tall)) rfl (fun H locs hP hD hS => ?_)
    generalize el_3 : (mm_is v_rowOf x1 x3) = l_3 at hP hD
    have hf := mm_nms hf el_3.symm
    apply mm_sub2 hf
    exact mm_vret C0 hP hD hS dX5_setAlong_22
  · have hf := mm_in hf c_1
    refine lv_aload_n hx hb dX5_setAlong_5 rfl (lv_at hl 0 rfl) ?_
    refine mm_get C0 hP iw_X5 0 rfl rfl 8 (by decide) fl_X5_15 rfl dX5_setAlong_6 ?_
    refine lv_iload_n hx hb dX5_setAlong_9 rfl (lv_at hl 1 rfl) ?_
    refine lv_iload_n hx hb dX5_setAlong_10 rfl (lv_at hl 3 rfl) ?_
    obtain ⟨h_4, hf⟩ := mm_cks hf
    refine mm_iast C0 hP hD hS 2 rfl h_4 dX5_setAlong_11 (w2 := (wd_X5 cI cL cS cH a v_rows v_cols v_high v_wide v_folds v_wrong v_more v_rowOf (mm_is v_colOf x1 x3) v_below v_face v_worn v_last v_bend v_tall)) rfl (fun H locs hP hD hS => ?_)
    generalize el_5 : (mm_is v_colOf x1 x3) = l_5 at hP hD
    have hf := mm_nms hf el_5.symm
    refine lv_goto (tgt := 22) hx hb dX5_setAlong_12 (by decide) ?_
    apply mm_sub2 hf
    exact mm_vret C0 hP hD hS dX5_setAlong_22

theorem dX5_tallAt_0 : decode cX5_tallAt 0 = .ok (.iload_n 1, 1) := by decide +kernel
theorem dX5_tallAt_1 : decode cX5_tallAt 1 = .ok (.ifCond .lt 12, 3) := by decide +kernel
theorem dX5_tallAt_4 : decode cX5_tallAt 4 = .ok (.iload_n 1, 1) := by decide +kernel
theorem dX5_tallAt_5 : decode cX5_tallAt 5 = .ok (.aload_n 0, 1) := by decide +kernel
theorem dX5_tallAt_6 : decode cX5_tallAt 6 = .ok (.iload_n 3, 1) := by decide +kernel
theorem dX5_tallAt_7 : decode cX5_tallAt 7 = .ok (.invokevirtual 88, 3) := by decide +kernel
theorem dX5_tallAt_10 : decode cX5_tallAt 10 = .ok (.if_icmp .lt 5, 3) := by decide +kernel
theorem dX5_tallAt_13 : decode cX5_tallAt 13 = .ok (.iconst 0, 1) := by decide +kernel
theorem dX5_tallAt_14 : decode cX5_tallAt 14 = .ok (.ireturn, 1) := by decide +kernel
theorem dX5_tallAt_15 : decode cX5_tallAt 15 = .ok (.iload_n 3, 1) := by decide +kernel
theorem dX5_tallAt_16 : decode cX5_tallAt 16 = .ok (.iconst 4, 1) := by decide +kernel
theorem dX5_tallAt_17 : decode cX5_tallAt 17 = .ok (.if_icmp .ge 17, 3) := by decide +kernel
theorem dX5_tallAt_20 : decode cX5_tallAt 20 = .ok (.aload_n 0, 1) := by decide +kernel
theorem dX5_tallAt_21 : decode cX5_tallAt 21 = .ok (.getfield 33, 3) := by decide +kernel
theorem dX5_tallAt_24 : decode cX5_tallAt 24 = .ok (.iload_n 2, 1) := by decide +kernel
theorem dX5_tallAt_25 : decode cX5_tallAt 25 = .ok (.bipush 8, 2) := by decide +kernel
theorem dX5_tallAt_27 : decode cX5_tallAt 27 = .ok (.imul, 1) := by decide +kernel
theorem dX5_tallAt_28 : decode cX5_tallAt 28 = .ok (.iload_n 1, 1) := by decide +kernel
theorem dX5_tallAt_29 : decode cX5_tallAt 29 = .ok (.iadd, 1) := by decide +kernel
theorem dX5_tallAt_30 : decode cX5_tallAt 30 = .ok (.iaload, 1) := by decide +kernel
theorem dX5_tallAt_31 : decode cX5_tallAt 31 = .ok (.goto 14, 3) := by decide +kernel
theorem dX5_tallAt_34 : decode cX5_tallAt 34 = .ok (.aload_n 0, 1) := by decide +kernel
theorem dX5_tallAt_35 : decode cX5_tallAt 35 = .ok (.getfield 33, 3) := by decide +kernel
theorem dX5_tallAt_38 : decode cX5_tallAt 38 = .ok (.iload_n 1, 1) := by decide +kernel
theorem dX5_tallAt_39 : decode cX5_tallAt 39 = .ok (.bipush 8, 2) := by decide +kernel
theorem dX5_tallAt_41 : decode cX5_tallAt 41 = .ok (.imul, 1) := by decide +kernel
theorem dX5_tallAt_42 : decode cX5_tallAt 42 = .ok (.iload_n 2, 1) := by decide +kernel
theorem dX5_tallAt_43 : decode cX5_tallAt 43 = .ok (.iadd, 1) := by decide +kernel
theorem dX5_tallAt_44 : decode cX5_tallAt 44 = .ok (.iaload, 1) := by decide +kernel
theorem dX5_tallAt_45 : decode cX5_tallAt 45 = .ok (.ireturn, 1) := by decide +kernel
def fX5_tallAt (N : Nat) (x1 : Int32) (x2 : Int32) (x3 : Int32) (v_high : Int32) (v_wide : Int32) (v_tall : List Int32) : Option (Int32) :=
    if x1 < 0 then
    (some ((0 : Int32)))
    else (mm_bd1 (fX5_span N x3 v_high v_wide) (fun (r_2 : Int32) =>
    if x1 < r_2 then
    (if (4 : Int32) ≤ x3 then
    (mm_ck (mm_inb ((x1 * (8 : Int32)) + x2) v_tall.length) (some ((mm_ig v_tall ((x1 * (8 : Int32)) + x2)))))
    else (mm_ck (mm_inb ((x2 * (8 : Int32)) + x1) v_tall.length) (some ((mm_ig v_tall ((x2 * (8 : Int32)) + x1))))))
    else (some ((0 : Int32)))))

set_option maxHeartbeats 4000000 in
set_option maxRecDepth 100000 in
theorem ctX5_tallAt {l : Launch} {D : va_G} {cI cL cS cH : ClassId} {a : Nat → Nat} {x1 : Int32} {x2 : Int32} {x3 : Int32} {v_rows : Int32} {v_cols : Int32} {v_high : Int32} {v_wide : Int32} {v_folds : Int32} {v_wrong : Int32} {v_more : Int32} {v_rowOf : List Int32} {v_colOf : List Int32} {v_below : List Int32} {v_face : List Int32} {v_worn : List Int32} {v_last : List Int32} {v_bend : List Int32} {v_tall : List Int32} {r : Int32} {N d : Nat} (hd : 2 ≤ d) (hf : fX5_tallAt N x1 x2 x3 v_high v_wide v_tall = some r) : mm_Ct l yX5_tallAt cX5_tallAt 4 (some .int) d D (mm_T cI cL cS cH) [.ref (a 0), .int x1, .int x2, .int x3] (wd_X5 cI cL cS cH a v_rows v_cols v_high v_wide v_folds v_wrong v_more v_rowOf v_colOf v_below v_face v_worn v_last v_bend v_tall) (wd_X5 cI cL cS cH a v_rows v_cols v_high v_wide v_folds v_wrong v_more v_rowOf v_colOf v_below v_face v_worn v_last v_bend v_tall) (some (.int r)) := by
  refine mm_of (by decide) (Nat.le_of_ble_eq_true rfl) ?_
  intro p e s m args below meth c A H locs ls C0 hP hD hA hS hl
  have C0 : mm_Cx p s m args meth c RX5 cX5_tallAt 4 (some .int) D (mm_T cI cL cS cH) A := C0
  obtain ⟨hx, hb, hml, hown, hts, hr, hlocks, hK, hSt⟩ := id C0
  have hl : lv_has ls 4 [(0, .ref (a 0)), (1, .int x1), (2, .int x2), (3, .int x3)] := hl
  unfold fX5_tallAt at hf
  refine lv_iload_n hx hb dX5_tallAt_0 rfl (lv_at hl 1 rfl) ?_
  refine lv_if_lt (tgt := 13) hx hb dX5_tallAt_1 (by decide) (fun c_1 => ?_) (fun c_1 => ?_)
  · have hf := mm_ip hf c_1
    refine lv_iconst (v := 0) hx hb dX5_tallAt_13 (by decide) ?_
    obtain rfl := mm_inj1 hf
    exact mm_iret C0 hP hD hS dX5_tallAt_14
  · have hf := mm_in hf c_1
    refine lv_iload_n hx hb dX5_tallAt_4 rfl (lv_at hl 1 rfl) ?_
    refine lv_aload_n hx hb dX5_tallAt_5 rfl (lv_at hl 0 rfl) ?_
    refine lv_iload_n hx hb dX5_tallAt_6 rfl (lv_at hl 3 rfl) ?_
    obtain ⟨r_2, hc_3, hf⟩ := mm_bd1s hf
    refine mm_callVF (q0 := 0) (ci := 5) (rest := [.int x1]) C0 lk_X5_88 (ctX5_span (a := a) (d := d - 1) (by omega) hc_3) (by omega) rfl hl.1 rfl (mm_cat rfl) dX5_tallAt_7 hP hD hA hS rfl rfl (fun H locs hP hD hS => ?_)
    refine W.eq (g2 := F0 m 10 ls [.int r_2, .int x1]) rfl ?_
    refine lv_icmp_lt (tgt := 15) hx hb dX5_tallAt_10 (by decide) (fun c_4 => ?_) (fun c_4 => ?_)
    · have hf := mm_ip hf c_4
      refine lv_iload_n hx hb dX5_tallAt_15 rfl (lv_at hl 3 rfl) ?_
      refine lv_iconst (v := 4) hx hb dX5_tallAt_16 (by decide) ?_
      refine lv_icmp_ge (tgt := 34) hx hb dX5_tallAt_17 (by decide) (fun c_5 => ?_) (fun c_5 => ?_)
      · have hf := mm_ip hf c_5
        refine lv_aload_n hx hb dX5_tallAt_34 rfl (lv_at hl 0 rfl) ?_
        refine mm_get C0 hP iw_X5 0 rfl rfl 14 (by decide) fl_X5_33 rfl dX5_tallAt_35 ?_
        refine lv_iload_n hx hb dX5_tallAt_38 rfl (lv_at hl 1 rfl) ?_
        refine lv_bipush (v := 8) hx hb dX5_tallAt_39 (by decide) ?_
        refine lv_imul hx hb dX5_tallAt_41 ?_
        refine lv_iload_n hx hb dX5_tallAt_42 rfl (lv_at hl 2 rfl) ?_
        refine lv_iadd hx hb dX5_tallAt_43 ?_
        obtain ⟨h_6, hf⟩ := mm_cks hf
        refine mm_iald C0 hP 8 rfl h_6 dX5_tallAt_44 ?_
        obtain rfl := mm_inj1 hf
        exact mm_iret C0 hP hD hS dX5_tallAt_45
      · have hf := mm_in hf c_5
        refine lv_aload_n hx hb dX5_tallAt_20 rfl (lv_at hl 0 rfl) ?_
        refine mm_get C0 hP iw_X5 0 rfl rfl 14 (by decide) fl_X5_33 rfl dX5_tallAt_21 ?_
        refine lv_iload_n hx hb dX5_tallAt_24 rfl (lv_at hl 2 rfl) ?_
        refine lv_bipush (v := 8) hx hb dX5_tallAt_25 (by decide) ?_
        refine lv_imul hx hb dX5_tallAt_27 ?_
        refine lv_iload_n hx hb dX5_tallAt_28 rfl (lv_at hl 1 rfl) ?_
        refine lv_iadd hx hb dX5_tallAt_29 ?_
        obtain ⟨h_7, hf⟩ := mm_cks hf
        refine mm_iald C0 hP 8 rfl h_7 dX5_tallAt_30 ?_
        refine lv_goto (tgt := 45) hx hb dX5_tallAt_31 (by decide) ?_
        obtain rfl := mm_inj1 hf
        exact mm_iret C0 hP hD hS dX5_tallAt_45
    · have hf := mm_in hf c_4
      refine lv_iconst (v := 0) hx hb dX5_tallAt_13 (by decide) ?_
      obtain rfl := mm_inj1 hf
      exact mm_iret C0 hP hD hS dX5_tallAt_14

theorem dX5_turn_0 : decode cX5_turn 0 = .ok (.aload_n 0, 1) := by decide +kernel
theorem dX5_turn_1 : decode cX5_turn 1 = .ok (.invokevirtual 159, 3) := by decide +kernel
theorem dX5_turn_4 : decode cX5_turn 4 = .ok (.aload_n 0, 1) := by decide +kernel
theorem dX5_turn_5 : decode cX5_turn 5 = .ok (.iload_n 2, 1) := by decide +kernel
theorem dX5_turn_6 : decode cX5_turn 6 = .ok (.invokevirtual 88, 3) := by decide +kernel
theorem dX5_turn_9 : decode cX5_turn 9 = .ok (.istore_n 3, 1) := by decide +kernel
theorem dX5_turn_10 : decode cX5_turn 10 = .ok (.iload_n 2, 1) := by decide +kernel
theorem dX5_turn_11 : decode cX5_turn 11 = .ok (.invokestatic 135, 3) := by decide +kernel
theorem dX5_turn_14 : decode cX5_turn 14 = .ok (.ifCond .eq 7, 3) := by decide +kernel
theorem dX5_turn_17 : decode cX5_turn 17 = .ok (.iload_n 1, 1) := by decide +kernel
theorem dX5_turn_18 : decode cX5_turn 18 = .ok (.goto 12, 3) := by decide +kernel
theorem dX5_turn_21 : decode cX5_turn 21 = .ok (.iconst 0, 1) := by decide +kernel
theorem dX5_turn_22 : decode cX5_turn 22 = .ok (.iconst 2, 1) := by decide +kernel
theorem dX5_turn_23 : decode cX5_turn 23 = .ok (.iload_n 1, 1) := by decide +kernel
theorem dX5_turn_24 : decode cX5_turn 24 = .ok (.imul, 1) := by decide +kernel
theorem dX5_turn_25 : decode cX5_turn 25 = .ok (.iload_n 3, 1) := by decide +kernel
theorem dX5_turn_26 : decode cX5_turn 26 = .ok (.isub, 1) := by decide +kernel
theorem dX5_turn_27 : decode cX5_turn 27 = .ok (.invokestatic 156, 3) := by decide +kernel
theorem dX5_turn_30 : decode cX5_turn 30 = .ok (.istore 4, 2) := by decide +kernel
theorem dX5_turn_32 : decode cX5_turn 32 = .ok (.iconst 0, 1) := by decide +kernel
theorem dX5_turn_33 : decode cX5_turn 33 = .ok (.istore 5, 2) := by decide +kernel
theorem dX5_turn_35 : decode cX5_turn 35 = .ok (.iload 5, 2) := by decide +kernel
theorem dX5_turn_37 : decode cX5_turn 37 = .ok (.aload_n 0, 1) := by decide +kernel
theorem dX5_turn_38 : decode cX5_turn 38 = .ok (.invokevirtual 84, 3) := by decide +kernel
theorem dX5_turn_41 : decode cX5_turn 41 = .ok (.if_icmp .ge 165, 3) := by decide +kernel
theorem dX5_turn_44 : decode cX5_turn 44 = .ok (.aload_n 0, 1) := by decide +kernel
theorem dX5_turn_45 : decode cX5_turn 45 = .ok (.iload 5, 2) := by decide +kernel
theorem dX5_turn_47 : decode cX5_turn 47 = .ok (.iload_n 2, 1) := by decide +kernel
theorem dX5_turn_48 : decode cX5_turn 48 = .ok (.invokevirtual 141, 3) := by decide +kernel
theorem dX5_turn_51 : decode cX5_turn 51 = .ok (.istore 6, 2) := by decide +kernel
theorem dX5_turn_53 : decode cX5_turn 53 = .ok (.iconst 2, 1) := by decide +kernel
theorem dX5_turn_54 : decode cX5_turn 54 = .ok (.iload_n 1, 1) := by decide +kernel
theorem dX5_turn_55 : decode cX5_turn 55 = .ok (.imul, 1) := by decide +kernel
theorem dX5_turn_56 : decode cX5_turn 56 = .ok (.iconst 1, 1) := by decide +kernel
theorem dX5_turn_57 : decode cX5_turn 57 = .ok (.isub, 1) := by decide +kernel
theorem dX5_turn_58 : decode cX5_turn 58 = .ok (.iload 6, 2) := by decide +kernel
theorem dX5_turn_60 : decode cX5_turn 60 = .ok (.isub, 1) := by decide +kernel
theorem dX5_turn_61 : decode cX5_turn 61 = .ok (.istore 7, 2) := by decide +kernel
theorem dX5_turn_63 : decode cX5_turn 63 = .ok (.aload_n 0, 1) := by decide +kernel
theorem dX5_turn_64 : decode cX5_turn 64 = .ok (.iload 7, 2) := by decide +kernel
theorem dX5_turn_66 : decode cX5_turn 66 = .ok (.aload_n 0, 1) := by decide +kernel
theorem dX5_turn_67 : decode cX5_turn 67 = .ok (.iload 5, 2) := by decide +kernel
theorem dX5_turn_69 : decode cX5_turn 69 = .ok (.iload_n 2, 1) := by decide +kernel
theorem dX5_turn_70 : decode cX5_turn 70 = .ok (.invokevirtual 138, 3) := by decide +kernel
theorem dX5_turn_73 : decode cX5_turn 73 = .ok (.iload_n 2, 1) := by decide +kernel
theorem dX5_turn_74 : decode cX5_turn 74 = .ok (.invokevirtual 162, 3) := by decide +kernel
theorem dX5_turn_77 : decode cX5_turn 77 = .ok (.istore 8, 2) := by decide +kernel
theorem dX5_turn_79 : decode cX5_turn 79 = .ok (.iload 6, 2) := by decide +kernel
theorem dX5_turn_81 : decode cX5_turn 81 = .ok (.iload_n 1, 1) := by decide +kernel
theorem dX5_turn_82 : decode cX5_turn 82 = .ok (.if_icmp .ge 7, 3) := by decide +kernel
theorem dX5_turn_85 : decode cX5_turn 85 = .ok (.iconst 1, 1) := by decide +kernel
theorem dX5_turn_86 : decode cX5_turn 86 = .ok (.goto 4, 3) := by decide +kernel
theorem dX5_turn_89 : decode cX5_turn 89 = .ok (.iconst 0, 1) := by decide +kernel
theorem dX5_turn_90 : decode cX5_turn 90 = .ok (.iload_n 2, 1) := by decide +kernel
theorem dX5_turn_91 : decode cX5_turn 91 = .ok (.invokestatic 135, 3) := by decide +kernel
theorem dX5_turn_94 : decode cX5_turn 94 = .ok (.if_icmp .ne 75, 3) := by decide +kernel
theorem dX5_turn_97 : decode cX5_turn 97 = .ok (.aload_n 0, 1) := by decide +kernel
theorem dX5_turn_98 : decode cX5_turn 98 = .ok (.iload 6, 2) := by decide +kernel
theorem dX5_turn_100 : decode cX5_turn 100 = .ok (.aload_n 0, 1) := by decide +kernel
theorem dX5_turn_101 : decode cX5_turn 101 = .ok (.iload 5, 2) := by decide +kernel
theorem dX5_turn_103 : decode cX5_turn 103 = .ok (.iload_n 2, 1) := by decide +kernel
theorem dX5_turn_104 : decode cX5_turn 104 = .ok (.invokevirtual 138, 3) := by decide +kernel
theorem dX5_turn_107 : decode cX5_turn 107 = .ok (.iload_n 2, 1) := by decide +kernel
theorem dX5_turn_108 : decode cX5_turn 108 = .ok (.invokevirtual 162, 3) := by decide +kernel
theorem dX5_turn_111 : decode cX5_turn 111 = .ok (.istore 9, 2) := by decide +kernel
theorem dX5_turn_113 : decode cX5_turn 113 = .ok (.aload_n 0, 1) := by decide +kernel
theorem dX5_turn_114 : decode cX5_turn 114 = .ok (.getfield 18, 3) := by decide +kernel
theorem dX5_turn_117 : decode cX5_turn 117 = .ok (.iload 5, 2) := by decide +kernel
theorem dX5_turn_119 : decode cX5_turn 119 = .ok (.iload 9, 2) := by decide +kernel
theorem dX5_turn_121 : decode cX5_turn 121 = .ok (.iconst 1, 1) := by decide +kernel
theorem dX5_turn_122 : decode cX5_turn 122 = .ok (.isub, 1) := by decide +kernel
theorem dX5_turn_123 : decode cX5_turn 123 = .ok (.aload_n 0, 1) := by decide +kernel
theorem dX5_turn_124 : decode cX5_turn 124 = .ok (.getfield 18, 3) := by decide +kernel
theorem dX5_turn_127 : decode cX5_turn 127 = .ok (.iload 5, 2) := by decide +kernel
theorem dX5_turn_129 : decode cX5_turn 129 = .ok (.iaload, 1) := by decide +kernel
theorem dX5_turn_130 : decode cX5_turn 130 = .ok (.isub, 1) := by decide +kernel
theorem dX5_turn_131 : decode cX5_turn 131 = .ok (.iload_n 2, 1) := by decide +kernel
theorem dX5_turn_132 : decode cX5_turn 132 = .ok (.invokestatic 147, 3) := by decide +kernel
theorem dX5_turn_135 : decode cX5_turn 135 = .ok (.ifCond .eq 8, 3) := by decide +kernel
theorem dX5_turn_138 : decode cX5_turn 138 = .ok (.iload 8, 2) := by decide +kernel
theorem dX5_turn_140 : decode cX5_turn 140 = .ok (.goto 4, 3) := by decide +kernel
theorem dX5_turn_143 : decode cX5_turn 143 = .ok (.iconst 0, 1) := by decide +kernel
theorem dX5_turn_144 : decode cX5_turn 144 = .ok (.iadd, 1) := by decide +kernel
theorem dX5_turn_145 : decode cX5_turn 145 = .ok (.iastore, 1) := by decide +kernel
theorem dX5_turn_146 : decode cX5_turn 146 = .ok (.aload_n 0, 1) := by decide +kernel
theorem dX5_turn_147 : decode cX5_turn 147 = .ok (.getfield 21, 3) := by decide +kernel
theorem dX5_turn_150 : decode cX5_turn 150 = .ok (.iload 5, 2) := by decide +kernel
theorem dX5_turn_152 : decode cX5_turn 152 = .ok (.iconst 1, 1) := by decide +kernel
theorem dX5_turn_153 : decode cX5_turn 153 = .ok (.aload_n 0, 1) := by decide +kernel
theorem dX5_turn_154 : decode cX5_turn 154 = .ok (.getfield 21, 3) := by decide +kernel
theorem dX5_turn_157 : decode cX5_turn 157 = .ok (.iload 5, 2) := by decide +kernel
theorem dX5_turn_159 : decode cX5_turn 159 = .ok (.iaload, 1) := by decide +kernel
theorem dX5_turn_160 : decode cX5_turn 160 = .ok (.isub, 1) := by decide +kernel
theorem dX5_turn_161 : decode cX5_turn 161 = .ok (.iastore, 1) := by decide +kernel
theorem dX5_turn_162 : decode cX5_turn 162 = .ok (.iload 7, 2) := by decide +kernel
theorem dX5_turn_164 : decode cX5_turn 164 = .ok (.istore 6, 2) := by decide +kernel
theorem dX5_turn_166 : decode cX5_turn 166 = .ok (.goto 22, 3) := by decide +kernel
theorem dX5_turn_169 : decode cX5_turn 169 = .ok (.iload_n 2, 1) := by decide +kernel
theorem dX5_turn_170 : decode cX5_turn 170 = .ok (.invokestatic 147, 3) := by decide +kernel
theorem dX5_turn_173 : decode cX5_turn 173 = .ok (.ifCond .ne 15, 3) := by decide +kernel
theorem dX5_turn_176 : decode cX5_turn 176 = .ok (.aload_n 0, 1) := by decide +kernel
theorem dX5_turn_177 : decode cX5_turn 177 = .ok (.getfield 18, 3) := by decide +kernel
theorem dX5_turn_180 : decode cX5_turn 180 = .ok (.iload 5, 2) := by decide +kernel
theorem dX5_turn_182 : decode cX5_turn 182 = .ok (.dup2, 1) := by decide +kernel
theorem dX5_turn_183 : decode cX5_turn 183 = .ok (.iaload, 1) := by decide +kernel
theorem dX5_turn_184 : decode cX5_turn 184 = .ok (.iload 8, 2) := by decide +kernel
theorem dX5_turn_186 : decode cX5_turn 186 = .ok (.iadd, 1) := by decide +kernel
theorem dX5_turn_187 : decode cX5_turn 187 = .ok (.iastore, 1) := by decide +kernel
theorem dX5_turn_188 : decode cX5_turn 188 = .ok (.aload_n 0, 1) := by decide +kernel
theorem dX5_turn_189 : decode cX5_turn 189 = .ok (.iload 5, 2) := by decide +kernel
theorem dX5_turn_191 : decode cX5_turn 191 = .ok (.iload_n 2, 1) := by decide +kernel
theorem dX5_turn_192 : decode cX5_turn 192 = .ok (.iload 6, 2) := by decide +kernel
theorem dX5_turn_194 : decode cX5_turn 194 = .ok (.iload 4, 2) := by decide +kernel
theorem dX5_turn_196 : decode cX5_turn 196 = .ok (.isub, 1) := by decide +kernel
theorem dX5_turn_197 : decode cX5_turn 197 = .ok (.invokevirtual 165, 3) := by decide +kernel
theorem dX5_turn_200 : decode cX5_turn 200 = .ok (.iinc 5 1, 3) := by decide +kernel
theorem dX5_turn_203 : decode cX5_turn 203 = .ok (.goto (-168), 3) := by decide +kernel
theorem dX5_turn_206 : decode cX5_turn 206 = .ok (.aload_n 0, 1) := by decide +kernel
theorem dX5_turn_207 : decode cX5_turn 207 = .ok (.iload_n 2, 1) := by decide +kernel
theorem dX5_turn_208 : decode cX5_turn 208 = .ok (.aload_n 0, 1) := by decide +kernel
theorem dX5_turn_209 : decode cX5_turn 209 = .ok (.iload_n 1, 1) := by decide +kernel
theorem dX5_turn_210 : decode cX5_turn 210 = .ok (.iload_n 2, 1) := by decide +kernel
theorem dX5_turn_211 : decode cX5_turn 211 = .ok (.invokevirtual 169, 3) := by decide +kernel
theorem dX5_turn_214 : decode cX5_turn 214 = .ok (.invokevirtual 172, 3) := by decide +kernel
theorem dX5_turn_217 : decode cX5_turn 217 = .ok (.return_, 1) := by decide +kernel
def fX5_turn_188 (N : Nat) (k_35 : Int32 → Int32 → Int32 → Int32 → Int32 → Int32 → Int32 → Int32 → List Int32 → List Int32 → List Int32 → List Int32 → List Int32 → Option (Int32 × Int32 × List Int32 × List Int32 × List Int32 × List Int32 × List Int32)) (x1 : Int32) (x2 : Int32) (x4 : Int32) (x5 : Int32) (x6 : Int32) (v_rows : Int32) (v_cols : Int32) (v_high : Int32) (v_wide : Int32) (v_rowOf : List Int32) (v_colOf : List Int32) (v_below : List Int32) (v_face : List Int32) (v_tall : List Int32) : Option (Int32 × Int32 × List Int32 × List Int32 × List Int32 × List Int32 × List Int32) :=
    mm_bd2 (fX5_setAlong N x5 x2 (x6 - x4) v_rowOf v_colOf) (fun (w_49 : List Int32) (w_50 : List Int32) =>
    mm_nm (x5 + (1 : Int32)) (fun (y_52 : Int32) =>
    k_35 x1 x2 x4 y_52 v_rows v_cols v_high v_wide w_49 w_50 v_below v_face v_tall))

set_option maxHeartbeats 4000000 in
set_option maxRecDepth 100000 in
theorem tX5_turn_188 {p : Program} {l : Launch} {e : Env} {s : State} {m : MethodId} {args : Array Value} {below : List Frame} {meth : Method} {c : Code} {D : va_G} {cI cL cS cH : ClassId} {A : Nat → Prop} {d : Nat} {a : Nat → Nat} (hd : 3 ≤ d) (C0 : mm_Cx p s m args meth c RX5 cX5_turn 10 none D (mm_T cI cL cS cH) A) (hA : ∀ q, s.heap.size ≤ q → A q) {v_folds : Int32} {v_wrong : Int32} {v_more : Int32} {v_worn : List Int32} {v_last : List Int32} {v_bend : List Int32} {w_high : Int32} {w_wide : Int32} {w_rowOf : List Int32} {w_colOf : List Int32} {w_below : List Int32} {w_face : List Int32} {w_tall : List Int32} (N : Nat) {k_35 : Int32 → Int32 → Int32 → Int32 → Int32 → Int32 → Int32 → Int32 → List Int32 → List Int32 → List Int32 → List Int32 → List Int32 → Option (Int32 × Int32 × List Int32 × List Int32 × List Int32 × List Int32 × List Int32)} (hk_35 : ∀ (x1 : Int32) (x2 : Int32) (x4 : Int32) (x5 : Int32) (v_rows : Int32) (v_cols : Int32) (v_high : Int32) (v_wide : Int32) (v_rowOf : List Int32) (v_colOf : List Int32) (v_below : List Int32) (v_face : List Int32) (v_tall : List Int32) (H : Heap) (locs : List Loc) (ls : Array Slot), k_35 x1 x2 x4 x5 v_rows v_cols v_high v_wide v_rowOf v_colOf v_below v_face v_tall = some (w_high, w_wide, w_rowOf, w_colOf, w_below, w_face, w_tall) → va_P D mm_cl (wd_X5 cI cL cS cH a v_rows v_cols v_high v_wide v_folds v_wrong v_more v_rowOf v_colOf v_below v_face v_worn v_last v_bend v_tall) H → va_D A (wd_X5 cI cL cS cH a v_rows v_cols v_high v_wide v_folds v_wrong v_more v_rowOf v_colOf v_below v_face v_worn v_last v_bend v_tall) → va_S A s.heap H locs → lv_has ls 10 [(0, .ref (a 0)), (1, .int x1), (2, .int x2), (4, .int x4), (5, .int x5)] → W p l e (mm_rr d) s m args below meth c H locs 0 0 (mm_Z below D A (wd_X5 cI cL cS cH a v_rows v_cols w_high w_wide v_folds v_wrong v_more w_rowOf w_colOf w_below w_face v_worn v_last v_bend w_tall) none args s) (F0 m 35 ls [])) : ∀ (x1 : Int32) (x2 : Int32) (x4 : Int32) (x5 : Int32) (x6 : Int32) (v_rows : Int32) (v_cols : Int32) (v_high : Int32) (v_wide : Int32) (v_rowOf : List Int32) (v_colOf : List Int32) (v_below : List Int32) (v_face : List Int32) (v_tall : List Int32) (H : Heap) (locs : List Loc) (ls : Array Slot), fX5_turn_188 N k_35 x1 x2 x4 x5 x6 v_rows v_cols v_high v_wide v_rowOf v_colOf v_below v_face v_tall = some (w_high, w_wide, w_rowOf, w_colOf, w_below, w_face, w_tall) → va_P D mm_cl (wd_X5 cI cL cS cH a v_rows v_cols v_high v_wide v_folds v_wrong v_more v_rowOf v_colOf v_below v_face v_worn v_last v_bend v_tall) H → va_D A (wd_X5 cI cL cS cH a v_rows v_cols v_high v_wide v_folds v_wrong v_more v_rowOf v_colOf v_below v_face v_worn v_last v_bend v_tall) → va_S A s.heap H locs → lv_has ls 10 [(0, .ref (a 0)), (1, .int x1), (2, .int x2), (4, .int x4), (5, .int x5), (6, .int x6)] → W p l e (mm_rr d) s m args below meth c H locs 0 0 (mm_Z below D A (wd_X5 cI cL cS cH a v_rows v_cols w_high w_wide v_folds v_wrong v_more w_rowOf w_colOf w_below w_face v_worn v_last v_bend w_tall) none args s) (F0 m 188 ls []) := by
  obtain ⟨hx, hb, hml, hown, hts, hr, hlocks, hK, hSt⟩ := id C0
  intro x1 x2 x4 x5 x6 v_rows v_cols v_high v_wide v_rowOf v_colOf v_below v_face v_tall H locs ls hf hP hD hS hl
  unfold fX5_turn_188 at hf
  refine lv_aload_n hx hb dX5_turn_188 rfl (lv_at hl 0 rfl) ?_
  refine lv_iload hx hb dX5_turn_189 (lv_at hl 4 rfl) ?_
  refine lv_iload_n hx hb dX5_turn_191 rfl (lv_at hl 2 rfl) ?_
  refine lv_iload hx hb dX5_turn_192 (lv_at hl 5 rfl) ?_
  refine lv_iload hx hb dX5_turn_194 (lv_at hl 3 rfl) ?_
  refine lv_isub hx hb dX5_turn_196 ?_
  obtain ⟨w_49, w_50, hc_51, hf⟩ := mm_bd2s hf
  refine mm_callVF (q0 := 0) (ci := 5) (rest := []) C0 lk_X5_165 (ctX5_setAlong (a := a) (d := d - 1) (by omega) hc_51) (by omega) rfl hl.1 rfl (mm_cat rfl) dX5_turn_197 hP hD hA hS rfl rfl (fun H locs hP hD hS => ?_)
  refine W.eq (g2 := F0 m 200 ls []) rfl ?_
  obtain ⟨y_52, ey_52⟩ : ∃ z : Int32, z = x5 + (1 : Int32) := ⟨_, rfl⟩
  have hf := mm_nms hf ey_52
  refine lv_iinc (v := y_52) (lv' := [(5, .int y_52), (0, .ref (a 0)), (1, .int x1), (2, .int x2), (4, .int x4), (6, .int x6)]) hx hb dX5_turn_200 hl (k := 4) rfl (by rw [ey_52]; rfl) (by decide) rfl (fun ls hl => ?_)
  refine lv_goto (tgt := 35) hx hb dX5_turn_203 (by decide) ?_
  exact hk_35 _ _ _ _ _ _ _ _ _ _ _ _ _ H locs ls hf hP hD hS (lv_sub hl [1, 2, 3, 4, 0] rfl)

def fX5_turn_144 (N : Nat) (k_35 : Int32 → Int32 → Int32 → Int32 → Int32 → Int32 → Int32 → Int32 → List Int32 → List Int32 → List Int32 → List Int32 → List Int32 → Option (Int32 × Int32 × List Int32 × List Int32 × List Int32 × List Int32 × List Int32)) (x1 : Int32) (x2 : Int32) (x4 : Int32) (x5 : Int32) (x7 : Int32) (s0 : Int32) (s1 : Int32) (s2 : Int32) (v_rows : Int32) (v_cols : Int32) (v_high : Int32) (v_wide : Int32) (v_rowOf : List Int32) (v_colOf : List Int32) (v_below : List Int32) (v_face : List Int32) (v_tall : List Int32) : Option (Int32 × Int32 × List Int32 × List Int32 × List Int32 × List Int32 × List Int32) :=
    mm_nm ((s1 + s0)) (fun (y_42 : Int32) =>
    mm_ck (mm_inb s2 v_below.length) (mm_nm (mm_is v_below s2 y_42) (fun (l_44 : List Int32) =>
    mm_ck (mm_inb x5 v_face.length) (mm_nm (((1 : Int32) - (mm_ig v_face x5))) (fun (y_46 : Int32) =>
    mm_ck (mm_inb x5 v_face.length) (mm_nm (mm_is v_face x5 y_46) (fun (l_48 : List Int32) =>
    fX5_turn_188 N k_35 x1 x2 x4 x5 x7 v_rows v_cols v_high v_wide v_rowOf v_colOf l_44 l_48 v_tall)))))))

set_option maxHeartbeats 4000000 in
set_option maxRecDepth 100000 in
theorem tX5_turn_144 {p : Program} {l : Launch} {e : Env} {s : State} {m : MethodId} {args : Array Value} {below : List Frame} {meth : Method} {c : Code} {D : va_G} {cI cL cS cH : ClassId} {A : Nat → Prop} {d : Nat} {a : Nat → Nat} (hd : 3 ≤ d) (C0 : mm_Cx p s m args meth c RX5 cX5_turn 10 none D (mm_T cI cL cS cH) A) (hA : ∀ q, s.heap.size ≤ q → A q) {v_folds : Int32} {v_wrong : Int32} {v_more : Int32} {v_worn : List Int32} {v_last : List Int32} {v_bend : List Int32} {w_high : Int32} {w_wide : Int32} {w_rowOf : List Int32} {w_colOf : List Int32} {w_below : List Int32} {w_face : List Int32} {w_tall : List Int32} (N : Nat) {k_35 : Int32 → Int32 → Int32 → Int32 → Int32 → Int32 → Int32 → Int32 → List Int32 → List Int32 → List Int32 → List Int32 → List Int32 → Option (Int32 × Int32 × List Int32 × List Int32 × List Int32 × List Int32 × List Int32)} (hk_35 : ∀ (x1 : Int32) (x2 : Int32) (x4 : Int32) (x5 : Int32) (v_rows : Int32) (v_cols : Int32) (v_high : Int32) (v_wide : Int32) (v_rowOf : List Int32) (v_colOf : List Int32) (v_below : List Int32) (v_face : List Int32) (v_tall : List Int32) (H : Heap) (locs : List Loc) (ls : Array Slot), k_35 x1 x2 x4 x5 v_rows v_cols v_high v_wide v_rowOf v_colOf v_below v_face v_tall = some (w_high, w_wide, w_rowOf, w_colOf, w_below, w_face, w_tall) → va_P D mm_cl (wd_X5 cI cL cS cH a v_rows v_cols v_high v_wide v_folds v_wrong v_more v_rowOf v_colOf v_below v_face v_worn v_last v_bend v_tall) H → va_D A (wd_X5 cI cL cS cH a v_rows v_cols v_high v_wide v_folds v_wrong v_more v_rowOf v_colOf v_below v_face v_worn v_last v_bend v_tall) → va_S A s.heap H locs → lv_has ls 10 [(0, .ref (a 0)), (1, .int x1), (2, .int x2), (4, .int x4), (5, .int x5)] → W p l e (mm_rr d) s m args below meth c H locs 0 0 (mm_Z below D A (wd_X5 cI cL cS cH a v_rows v_cols w_high w_wide v_folds v_wrong v_more w_rowOf w_colOf w_below w_face v_worn v_last v_bend w_tall) none args s) (F0 m 35 ls [])) : ∀ (x1 : Int32) (x2 : Int32) (x4 : Int32) (x5 : Int32) (x7 : Int32) (s0 : Int32) (s1 : Int32) (s2 : Int32) (v_rows : Int32) (v_cols : Int32) (v_high : Int32) (v_wide : Int32) (v_rowOf : List Int32) (v_colOf : List Int32) (v_below : List Int32) (v_face : List Int32) (v_tall : List Int32) (H : Heap) (locs : List Loc) (ls : Array Slot), fX5_turn_144 N k_35 x1 x2 x4 x5 x7 s0 s1 s2 v_rows v_cols v_high v_wide v_rowOf v_colOf v_below v_face v_tall = some (w_high, w_wide, w_rowOf, w_colOf, w_below, w_face, w_tall) → va_P D mm_cl (wd_X5 cI cL cS cH a v_rows v_cols v_high v_wide v_folds v_wrong v_more v_rowOf v_colOf v_below v_face v_worn v_last v_bend v_tall) H → va_D A (wd_X5 cI cL cS cH a v_rows v_cols v_high v_wide v_folds v_wrong v_more v_rowOf v_colOf v_below v_face v_worn v_last v_bend v_tall) → va_S A s.heap H locs → lv_has ls 10 [(0, .ref (a 0)), (1, .int x1), (2, .int x2), (4, .int x4), (5, .int x5), (7, .int x7)] → W p l e (mm_rr d) s m args below meth c H locs 0 0 (mm_Z below D A (wd_X5 cI cL cS cH a v_rows v_cols w_high w_wide v_folds v_wrong v_more w_rowOf w_colOf w_below w_face v_worn v_last v_bend w_tall) none args s) (F0 m 144 ls [.int s0, .int s1, .int s2, .ref (a 3)]) := by
  obtain ⟨hx, hb, hml, hown, hts, hr, hlocks, hK, hSt⟩ := id C0
  intro x1 x2 x4 x5 x7 s0 s1 s2 v_rows v_cols v_high v_wide v_rowOf v_colOf v_below v_face v_tall H locs ls hf hP hD hS hl
  unfold fX5_turn_144 at hf
  refine lv_iadd hx hb dX5_turn_144 ?_
  refine lv_topi (fun y_42 ey_42 => ?_)
  have hf := mm_nms hf ey_42
  obtain ⟨h_43, hf⟩ := mm_cks hf
  refine mm_iast C0 hP hD hS 3 rfl h_43 dX5_turn_145 (w2 := (wd_X5 cI cL cS cH a v_rows v_cols v_high v_wide v_folds v_wrong v_more v_rowOf v_colOf (mm_is v_below s2 y_42) v_face v_worn v_last v_bend v_tall)) rfl (fun H locs hP hD hS => ?_)
  generalize el_44 : (mm_is v_below s2 y_42) = l_44 at hP hD
  have hf := mm_nms hf el_44.symm
  refine lv_aload_n hx hb dX5_turn_146 rfl (lv_at hl 0 rfl) ?_
  refine mm_get C0 hP iw_X5 0 rfl rfl 10 (by decide) fl_X5_21 rfl dX5_turn_147 ?_
  refine lv_iload hx hb dX5_turn_150 (lv_at hl 4 rfl) ?_
  refine lv_iconst (v := 1) hx hb dX5_turn_152 (by decide) ?_
  refine lv_aload_n hx hb dX5_turn_153 rfl (lv_at hl 0 rfl) ?_
  refine mm_get C0 hP iw_X5 0 rfl rfl 10 (by decide) fl_X5_21 rfl dX5_turn_154 ?_
  refine lv_iload hx hb dX5_turn_157 (lv_at hl 4 rfl) ?_
  obtain ⟨h_45, hf⟩ := mm_cks hf
  refine mm_iald C0 hP 4 rfl h_45 dX5_turn_159 ?_
  refine lv_isub hx hb dX5_turn_160 ?_
  refine lv_topi (fun y_46 ey_46 => ?_)
  have hf := mm_nms hf ey_46
  obtain ⟨h_47, hf⟩ := mm_cks hf
  refine mm_iast C0 hP hD hS 4 rfl h_47 dX5_turn_161 (w2 := (wd_X5 cI cL cS cH a v_rows v_cols v_high v_wide v_folds v_wrong v_more v_rowOf v_colOf l_44 (mm_is v_face x5 y_46) v_worn v_last v_bend v_tall)) rfl (fun H locs hP hD hS => ?_)
  generalize el_48 : (mm_is v_face x5 y_46) = l_48 at hP hD
  have hf := mm_nms hf el_48.symm
  refine lv_iload hx hb dX5_turn_162 (lv_at hl 5 rfl) ?_
  refine lv_istore (lv' := [(6, .int x7), (0, .ref (a 0)), (1, .int x1), (2, .int x2), (4, .int x4), (5, .int x5), (7, .int x7)]) hx hb dX5_turn_164 hl (by decide) rfl (fun ls hl => ?_)
  refine lv_goto (tgt := 188) hx hb dX5_turn_166 (by decide) ?_
  exact tX5_turn_188 hd C0 hA N hk_35 _ _ _ _ _ _ _ _ _ _ _ _ _ _ H locs ls hf hP hD hS (lv_sub hl [1, 2, 3, 4, 5, 0] rfl)

def fX5_turn_90 (N : Nat) (k_35 : Int32 → Int32 → Int32 → Int32 → Int32 → Int32 → Int32 → Int32 → List Int32 → List Int32 → List Int32 → List Int32 → List Int32 → Option (Int32 × Int32 × List Int32 × List Int32 × List Int32 × List Int32 × List Int32)) (x1 : Int32) (x2 : Int32) (x4 : Int32) (x5 : Int32) (x6 : Int32) (x7 : Int32) (x8 : Int32) (s0 : Int32) (v_rows : Int32) (v_cols : Int32) (v_high : Int32) (v_wide : Int32) (v_rowOf : List Int32) (v_colOf : List Int32) (v_below : List Int32) (v_face : List Int32) (v_tall : List Int32) : Option (Int32 × Int32 × List Int32 × List Int32 × List Int32 × List Int32 × List Int32) :=
    mm_bd1 (fX5_comesFromStart N x2) (fun (r_24 : Bool) =>
    if s0 = (mm_b r_24) then
    (mm_bd1 (fX5_across N x5 x2 v_rowOf v_colOf) (fun (r_34 : Int32) =>
    mm_bd1 (fX5_tallAt N x6 r_34 x2 v_high v_wide v_tall) (fun (r_36 : Int32) =>
    mm_ck (mm_inb x5 v_below.length) (mm_bd1 (fX5_comesOver N x2) (fun (r_39 : Bool) =>
    if r_39 = false then
    (fX5_turn_144 N k_35 x1 x2 x4 x5 x7 (0 : Int32) ((r_36 - (1 : Int32)) - (mm_ig v_below x5)) x5 v_rows v_cols v_high v_wide v_rowOf v_colOf v_below v_face v_tall)
    else (fX5_turn_144 N k_35 x1 x2 x4 x5 x7 x8 ((r_36 - (1 : Int32)) - (mm_ig v_below x5)) x5 v_rows v_cols v_high v_wide v_rowOf v_colOf v_below v_face v_tall))))))
    else (mm_bd1 (fX5_comesOver N x2) (fun (r_27 : Bool) =>
    if r_27 = false then
    (mm_ck (mm_inb x5 v_below.length) (mm_nm (((mm_ig v_below x5) + x8)) (fun (y_31 : Int32) =>
    mm_ck (mm_inb x5 v_below.length) (mm_nm (mm_is v_below x5 y_31) (fun (l_33 : List Int32) =>
    fX5_turn_188 N k_35 x1 x2 x4 x5 x6 v_rows v_cols v_high v_wide v_rowOf v_colOf l_33 v_face v_tall)))))
    else (fX5_turn_188 N k_35 x1 x2 x4 x5 x6 v_rows v_cols v_high v_wide v_rowOf v_colOf v_below v_face v_tall))))

set_option maxHeartbeats 4000000 in
set_option maxRecDepth 100000 in
theorem tX5_turn_90 {p : Program} {l : Launch} {e : Env} {s : State} {m : MethodId} {args : Array Value} {below : List Frame} {meth : Method} {c : Code} {D : va_G} {cI cL cS cH : ClassId} {A : Nat → Prop} {d : Nat} {a : Nat → Nat} (hd : 3 ≤ d) (C0 : mm_Cx p s m args meth c RX5 cX5_turn 10 none D (mm_T cI cL cS cH) A) (hA : ∀ q, s.heap.size ≤ q → A q) {v_folds : Int32} {v_wrong : Int32} {v_more : Int32} {v_worn : List Int32} {v_last : List Int32} {v_bend : List Int32} {w_high : Int32} {w_wide : Int32} {w_rowOf : List Int32} {w_colOf : List Int32} {w_below : List Int32} {w_face : List Int32} {w_tall : List Int32} (N : Nat) {k_35 : Int32 → Int32 → Int32 → Int32 → Int32 → Int32 → Int32 → Int32 → List Int32 → List Int32 → List Int32 → List Int32 → List Int32 → Option (Int32 × Int32 × List Int32 × List Int32 × List Int32 × List Int32 × List Int32)} (hk_35 : ∀ (x1 : Int32) (x2 : Int32) (x4 : Int32) (x5 : Int32) (v_rows : Int32) (v_cols : Int32) (v_high : Int32) (v_wide : Int32) (v_rowOf : List Int32) (v_colOf : List Int32) (v_below : List Int32) (v_face : List Int32) (v_tall : List Int32) (H : Heap) (locs : List Loc) (ls : Array Slot), k_35 x1 x2 x4 x5 v_rows v_cols v_high v_wide v_rowOf v_colOf v_below v_face v_tall = some (w_high, w_wide, w_rowOf, w_colOf, w_below, w_face, w_tall) → va_P D mm_cl (wd_X5 cI cL cS cH a v_rows v_cols v_high v_wide v_folds v_wrong v_more v_rowOf v_colOf v_below v_face v_worn v_last v_bend v_tall) H → va_D A (wd_X5 cI cL cS cH a v_rows v_cols v_high v_wide v_folds v_wrong v_more v_rowOf v_colOf v_below v_face v_worn v_last v_bend v_tall) → va_S A s.heap H locs → lv_has ls 10 [(0, .ref (a 0)), (1, .int x1), (2, .int x2), (4, .int x4), (5, .int x5)] → W p l e (mm_rr d) s m args below meth c H locs 0 0 (mm_Z below D A (wd_X5 cI cL cS cH a v_rows v_cols w_high w_wide v_folds v_wrong v_more w_rowOf w_colOf w_below w_face v_worn v_last v_bend w_tall) none args s) (F0 m 35 ls [])) : ∀ (x1 : Int32) (x2 : Int32) (x4 : Int32) (x5 : Int32) (x6 : Int32) (x7 : Int32) (x8 : Int32) (s0 : Int32) (v_rows : Int32) (v_cols : Int32) (v_high : Int32) (v_wide : Int32) (v_rowOf : List Int32) (v_colOf : List Int32) (v_below : List Int32) (v_face : List Int32) (v_tall : List Int32) (H : Heap) (locs : List Loc) (ls : Array Slot), fX5_turn_90 N k_35 x1 x2 x4 x5 x6 x7 x8 s0 v_rows v_cols v_high v_wide v_rowOf v_colOf v_below v_face v_tall = some (w_high, w_wide, w_rowOf, w_colOf, w_below, w_face, w_tall) → va_P D mm_cl (wd_X5 cI cL cS cH a v_rows v_cols v_high v_wide v_folds v_wrong v_more v_rowOf v_colOf v_below v_face v_worn v_last v_bend v_tall) H → va_D A (wd_X5 cI cL cS cH a v_rows v_cols v_high v_wide v_folds v_wrong v_more v_rowOf v_colOf v_below v_face v_worn v_last v_bend v_tall) → va_S A s.heap H locs → lv_has ls 10 [(0, .ref (a 0)), (1, .int x1), (2, .int x2), (4, .int x4), (5, .int x5), (6, .int x6), (7, .int x7), (8, .int x8)] → W p l e (mm_rr d) s m args below meth c H locs 0 0 (mm_Z below D A (wd_X5 cI cL cS cH a v_rows v_cols w_high w_wide v_folds v_wrong v_more w_rowOf w_colOf w_below w_face v_worn v_last v_bend w_tall) none args s) (F0 m 90 ls [.int s0]) := by
  obtain ⟨hx, hb, hml, hown, hts, hr, hlocks, hK, hSt⟩ := id C0
  intro x1 x2 x4 x5 x6 x7 x8 s0 v_rows v_cols v_high v_wide v_rowOf v_colOf v_below v_face v_tall H locs ls hf hP hD hS hl
  unfold fX5_turn_90 at hf
  refine lv_iload_n hx hb dX5_turn_90 rfl (lv_at hl 2 rfl) ?_
  obtain ⟨r_24, hc_25, hf⟩ := mm_bd1s hf
  refine mm_callS0 (rest := [.int s0]) C0 lk_X5_135 (ctX5_comesFromStart (d := d - 1) (by omega) hc_25) (by omega) rfl hl.1 rfl (mm_cat rfl) dX5_turn_91 hP hD hA hS (fun H locs hP hS => ?_)
  refine W.eq (g2 := F0 m 94 ls [.int (mm_b r_24), .int s0]) rfl ?_
  refine lv_icmp_ne (tgt := 169) hx hb dX5_turn_94 (by decide) (fun c_26 => ?_) (fun c_26 => ?_)
  · have hf := mm_in hf c_26
    refine lv_iload_n hx hb dX5_turn_169 rfl (lv_at hl 2 rfl) ?_
    obtain ⟨r_27, hc_28, hf⟩ := mm_bd1s hf
    refine mm_callS0 (rest := []) C0 lk_X5_147 (ctX5_comesOver (d := d - 1) (by omega) hc_28) (by omega) rfl hl.1 rfl (mm_cat rfl) dX5_turn_170 hP hD hA hS (fun H locs hP hS => ?_)
    refine W.eq (g2 := F0 m 173 ls [.int (mm_b r_27)]) rfl ?_
    refine lv_if_ne (tgt := 188) hx hb dX5_turn_173 (by decide) (fun c_29 => ?_) (fun c_29 => ?_)
    · have hf := mm_in hf (mm_b1 c_29)
      exact tX5_turn_188 hd C0 hA N hk_35 _ _ _ _ _ _ _ _ _ _ _ _ _ _ H locs ls hf hP hD hS (lv_sub hl [0, 1, 2, 3, 4, 5] rfl)
    · have hf := mm_ip hf (mm_b0 c_29)
      refine lv_aload_n hx hb dX5_turn_176 rfl (lv_at hl 0 rfl) ?_
      refine mm_get C0 hP iw_X5 0 rfl rfl 9 (by decide) fl_X5_18 rfl dX5_turn_177 ?_
      refine lv_iload hx hb dX5_turn_180 (lv_at hl 4 rfl) ?_
      refine lv_dup2_11 hx hb dX5_turn_182 rfl rfl ?_
      obtain ⟨h_30, hf⟩ := mm_cks hf
      refine mm_iald C0 hP 3 rfl h_30 dX5_turn_183 ?_
      refine lv_iload hx hb dX5_turn_184 (lv_at hl 7 rfl) ?_
      refine lv_iadd hx hb dX5_turn_186 ?_
      refine lv_topi (fun y_31 ey_31 => ?_)
      have hf := mm_nms hf ey_31
      obtain ⟨h_32, hf⟩ := mm_cks hf
      refine mm_iast C0 hP hD hS 3 rfl h_32 dX5_turn_187 (w2 := (wd_X5 cI cL cS cH a v_rows v_cols v_high v_wide v_folds v_wrong v_more v_rowOf v_colOf (mm_is v_below x5 y_31) v_face v_worn v_last v_bend v_tall)) rfl (fun H locs hP hD hS => ?_)
      generalize el_33 : (mm_is v_below x5 y_31) = l_33 at hP hD
      have hf := mm_nms hf el_33.symm
      exact tX5_turn_188 hd C0 hA N hk_35 _ _ _ _ _ _ _ _ _ _ _ _ _ _ H locs ls hf hP hD hS (lv_sub hl [0, 1, 2, 3, 4, 5] rfl)
  · have hf := mm_ip hf c_26
    refine lv_aload_n hx hb dX5_turn_97 rfl (lv_at hl 0 rfl) ?_
    refine lv_iload hx hb dX5_turn_98 (lv_at hl 5 rfl) ?_
    refine lv_aload_n hx hb dX5_turn_100 rfl (lv_at hl 0 rfl) ?_
    refine lv_iload hx hb dX5_turn_101 (lv_at hl 4 rfl) ?_
    refine lv_iload_n hx hb dX5_turn_103 rfl (lv_at hl 2 rfl) ?_
    obtain ⟨r_34, hc_35, hf⟩ := mm_bd1s hf
    refine mm_callVF (q0 := 0) (ci := 5) (rest := [.int x6, .ref (a 0)]) C0 lk_X5_138 (ctX5_across (a := a) (d := d - 1) (by omega) hc_35) (by omega) rfl hl.1 rfl (mm_cat rfl) dX5_turn_104 hP hD hA hS rfl rfl (fun H locs hP hD hS => ?_)
    refine W.eq (g2 := F0 m 107 ls [.int r_34, .int x6, .ref (a 0)]) rfl ?_
    refine lv_iload_n hx hb dX5_turn_107 rfl (lv_at hl 2 rfl) ?_
    obtain ⟨r_36, hc_37, hf⟩ := mm_bd1s hf
    refine mm_callVF (q0 := 0) (ci := 5) (rest := []) C0 lk_X5_162 (ctX5_tallAt (a := a) (d := d - 1) (by omega) hc_37) (by omega) rfl hl.1 rfl (mm_cat rfl) dX5_turn_108 hP hD hA hS rfl rfl (fun H locs hP hD hS => ?_)
    refine W.eq (g2 := F0 m 111 ls [.int r_36]) rfl ?_
    refine lv_istore (lv' := [(9, .int r_36), (0, .ref (a 0)), (1, .int x1), (2, .int x2), (4, .int x4), (5, .int x5), (6, .int x6), (7, .int x7), (8, .int x8)]) hx hb dX5_turn_111 hl (by decide) rfl (fun ls hl => ?_)
    refine lv_aload_n hx hb dX5_turn_113 rfl (lv_at hl 1 rfl) ?_
    refine mm_get C0 hP iw_X5 0 rfl rfl 9 (by decide) fl_X5_18 rfl dX5_turn_114 ?_
    refine lv_iload hx hb dX5_turn_117 (lv_at hl 5 rfl) ?_
    refine lv_iload hx hb dX5_turn_119 (lv_at hl 0 rfl) ?_
    refine lv_iconst (v := 1) hx hb dX5_turn_121 (by decide) ?_
    refine lv_isub hx hb dX5_turn_122 ?_
    refine lv_aload_n hx hb dX5_turn_123 rfl (lv_at hl 1 rfl) ?_
    refine mm_get C0 hP iw_X5 0 rfl rfl 9 (by decide) fl_X5_18 rfl dX5_turn_124 ?_
    refine lv_iload hx hb dX5_turn_127 (lv_at hl 5 rfl) ?_
    obtain ⟨h_38, hf⟩ := mm_cks hf
    refine mm_iald C0 hP 3 rfl h_38 dX5_turn_129 ?_
    refine lv_isub hx hb dX5_turn_130 ?_
    refine lv_iload_n hx hb dX5_turn_131 rfl (lv_at hl 3 rfl) ?_
    obtain ⟨r_39, hc_40, hf⟩ := mm_bd1s hf
    refine mm_callS0 (rest := [.int ((r_36 - (1 : Int32)) - (mm_ig v_below x5)), .int x5, .ref (a 3)]) C0 lk_X5_147 (ctX5_comesOver (d := d - 1) (by omega) hc_40) (by omega) rfl hl.1 rfl (mm_cat rfl) dX5_turn_132 hP hD hA hS (fun H locs hP hS => ?_)
    refine W.eq (g2 := F0 m 135 ls [.int (mm_b r_39), .int ((r_36 - (1 : Int32)) - (mm_ig v_below x5)), .int x5, .ref (a 3)]) rfl ?_
    refine lv_if_eq (tgt := 143) hx hb dX5_turn_135 (by decide) (fun c_41 => ?_) (fun c_41 => ?_)
    · have hf := mm_ip hf (mm_b0 c_41)
      refine lv_iconst (v := 0) hx hb dX5_turn_143 (by decide) ?_
      exact tX5_turn_144 hd C0 hA N hk_35 _ _ _ _ _ _ _ _ _ _ _ _ _ _ _ _ _ H locs ls hf hP hD hS (lv_sub hl [1, 2, 3, 4, 5, 7] rfl)
    · have hf := mm_in hf (mm_b1 c_41)
      refine lv_iload hx hb dX5_turn_138 (lv_at hl 8 rfl) ?_
      refine lv_goto (tgt := 144) hx hb dX5_turn_140 (by decide) ?_
      exact tX5_turn_144 hd C0 hA N hk_35 _ _ _ _ _ _ _ _ _ _ _ _ _ _ _ _ _ H locs ls hf hP hD hS (lv_sub hl [1, 2, 3, 4, 5, 7] rfl)

def fX5_turn_35 (N : Nat)  : Nat → Int32 → Int32 → Int32 → Int32 → Int32 → Int32 → Int32 → Int32 → List Int32 → List Int32 → List Int32 → List Int32 → List Int32 → Option (Int32 × Int32 × List Int32 × List Int32 × List Int32 × List Int32 × List Int32)
  | 0 => fun _ _ _ _ _ _ _ _ _ _ _ _ _ => none
  | n + 1 => fun x1 x2 x4 x5 v_rows v_cols v_high v_wide v_rowOf v_colOf v_below v_face v_tall =>
    mm_bd1 (fX5_fields N v_rows v_cols) (fun (r_8 : Int32) =>
    if r_8 ≤ x5 then
    (mm_bd1 (fX5_spanBehind N x1 x2 v_high v_wide) (fun (r_11 : Int32) =>
    mm_bd2 (fX5_narrow N x2 r_11 v_high v_wide) (fun (w_13 : Int32) (w_14 : Int32) =>
    some (w_13, w_14, v_rowOf, v_colOf, v_below, v_face, v_tall))))
    else (mm_bd1 (fX5_along N x5 x2 v_rowOf v_colOf) (fun (r_16 : Int32) =>
    mm_nm (((((2 : Int32) * x1) - (1 : Int32)) - r_16)) (fun (y_18 : Int32) =>
    mm_bd1 (fX5_across N x5 x2 v_rowOf v_colOf) (fun (r_19 : Int32) =>
    mm_bd1 (fX5_tallAt N y_18 r_19 x2 v_high v_wide v_tall) (fun (r_21 : Int32) =>
    if x1 ≤ r_16 then
    (fX5_turn_90 N (fX5_turn_35 N n) x1 x2 x4 x5 r_16 y_18 r_21 (0 : Int32) v_rows v_cols v_high v_wide v_rowOf v_colOf v_below v_face v_tall)
    else (fX5_turn_90 N (fX5_turn_35 N n) x1 x2 x4 x5 r_16 y_18 r_21 (1 : Int32) v_rows v_cols v_high v_wide v_rowOf v_colOf v_below v_face v_tall)))))))

set_option maxHeartbeats 4000000 in
set_option maxRecDepth 100000 in
theorem tX5_turn_35 {p : Program} {l : Launch} {e : Env} {s : State} {m : MethodId} {args : Array Value} {below : List Frame} {meth : Method} {c : Code} {D : va_G} {cI cL cS cH : ClassId} {A : Nat → Prop} {d : Nat} {a : Nat → Nat} (hd : 3 ≤ d) (C0 : mm_Cx p s m args meth c RX5 cX5_turn 10 none D (mm_T cI cL cS cH) A) (hA : ∀ q, s.heap.size ≤ q → A q) {v_folds : Int32} {v_wrong : Int32} {v_more : Int32} {v_worn : List Int32} {v_last : List Int32} {v_bend : List Int32} {w_high : Int32} {w_wide : Int32} {w_rowOf : List Int32} {w_colOf : List Int32} {w_below : List Int32} {w_face : List Int32} {w_tall : List Int32} (N : Nat)  : ∀ (n : Nat), ∀ (x1 : Int32) (x2 : Int32) (x4 : Int32) (x5 : Int32) (v_rows : Int32) (v_cols : Int32) (v_high : Int32) (v_wide : Int32) (v_rowOf : List Int32) (v_colOf : List Int32) (v_below : List Int32) (v_face : List Int32) (v_tall : List Int32) (H : Heap) (locs : List Loc) (ls : Array Slot), fX5_turn_35 N n x1 x2 x4 x5 v_rows v_cols v_high v_wide v_rowOf v_colOf v_below v_face v_tall = some (w_high, w_wide, w_rowOf, w_colOf, w_below, w_face, w_tall) → va_P D mm_cl (wd_X5 cI cL cS cH a v_rows v_cols v_high v_wide v_folds v_wrong v_more v_rowOf v_colOf v_below v_face v_worn v_last v_bend v_tall) H → va_D A (wd_X5 cI cL cS cH a v_rows v_cols v_high v_wide v_folds v_wrong v_more v_rowOf v_colOf v_below v_face v_worn v_last v_bend v_tall) → va_S A s.heap H locs → lv_has ls 10 [(0, .ref (a 0)), (1, .int x1), (2, .int x2), (4, .int x4), (5, .int x5)] → W p l e (mm_rr d) s m args below meth c H locs 0 0 (mm_Z below D A (wd_X5 cI cL cS cH a v_rows v_cols w_high w_wide v_folds v_wrong v_more w_rowOf w_colOf w_below w_face v_worn v_last v_bend w_tall) none args s) (F0 m 35 ls []) := by
  obtain ⟨hx, hb, hml, hown, hts, hr, hlocks, hK, hSt⟩ := id C0
  intro n
  induction n with
  | zero =>
    intro x1 x2 x4 x5 v_rows v_cols v_high v_wide v_rowOf v_colOf v_below v_face v_tall H locs ls hf
    cases (show none = some _ from hf)
  | succ n ih =>
    intro x1 x2 x4 x5 v_rows v_cols v_high v_wide v_rowOf v_colOf v_below v_face v_tall H locs ls hf hP hD hS hl
    unfold fX5_turn_35 at hf
    refine lv_iload hx hb dX5_turn_35 (lv_at hl 4 rfl) ?_
    refine lv_aload_n hx hb dX5_turn_37 rfl (lv_at hl 0 rfl) ?_
    obtain ⟨r_8, hc_9, hf⟩ := mm_bd1s hf
    refine mm_callVF (q0 := 0) (ci := 5) (rest := [.int x5]) C0 lk_X5_84 (ctX5_fields (a := a) (d := d - 1) (by omega) hc_9) (by omega) rfl hl.1 rfl (mm_cat rfl) dX5_turn_38 hP hD hA hS rfl rfl (fun H locs hP hD hS => ?_)
    refine W.eq (g2 := F0 m 41 ls [.int r_8, .int x5]) rfl ?_
    refine lv_icmp_ge (tgt := 206) hx hb dX5_turn_41 (by decide) (fun c_10 => ?_) (fun c_10 => ?_)
    · have hf := mm_ip hf c_10
      refine lv_aload_n hx hb dX5_turn_206 rfl (lv_at hl 0 rfl) ?_
      refine lv_iload_n hx hb dX5_turn_207 rfl (lv_at hl 2 rfl) ?_
      refine lv_aload_n hx hb dX5_turn_208 rfl (lv_at hl 0 rfl) ?_
      refine lv_iload_n hx hb dX5_turn_209 rfl (lv_at hl 1 rfl) ?_
      refine lv_iload_n hx hb dX5_turn_210 rfl (lv_at hl 2 rfl) ?_
      obtain ⟨r_11, hc_12, hf⟩ := mm_bd1s hf
      refine mm_callVF (q0 := 0) (ci := 5) (rest := [.int x2, .ref (a 0)]) C0 lk_X5_169 (ctX5_spanBehind (a := a) (d := d - 1) (by omega) hc_12) (by omega) rfl hl.1 rfl (mm_cat rfl) dX5_turn_211 hP hD hA hS rfl rfl (fun H locs hP hD hS => ?_)
      refine W.eq (g2 := F0 m 214 ls [.int r_11, .int x2, .ref (a 0)]) rfl ?_
      obtain ⟨w_13, w_14, hc_15, hf⟩ := mm_bd2s hf
      refine mm_callVF (q0 := 0) (ci := 5) (rest := []) C0 lk_X5_172 (ctX5_narrow (a := a) (d := d - 1) (by omega) hc_15) (by omega) rfl hl.1 rfl (mm_cat rfl) dX5_turn_214 hP hD hA hS rfl rfl (fun H locs hP hD hS => ?_)
      refine W.eq (g2 := F0 m 217 ls []) rfl ?_
      apply mm_sub7 hf
      exact mm_vret C0 hP hD hS dX5_turn_217
    · have hf := mm_in hf c_10
      refine lv_aload_n hx hb dX5_turn_44 rfl (lv_at hl 0 rfl) ?_
      refine lv_iload hx hb dX5_turn_45 (lv_at hl 4 rfl) ?_
      refine lv_iload_n hx hb dX5_turn_47 rfl (lv_at hl 2 rfl) ?_
      obtain ⟨r_16, hc_17, hf⟩ := mm_bd1s hf
      refine mm_callVF (q0 := 0) (ci := 5) (rest := []) C0 lk_X5_141 (ctX5_along (a := a) (d := d - 1) (by omega) hc_17) (by omega) rfl hl.1 rfl (mm_cat rfl) dX5_turn_48 hP hD hA hS rfl rfl (fun H locs hP hD hS => ?_)
      refine W.eq (g2 := F0 m 51 ls [.int r_16]) rfl ?_
      refine lv_istore (lv' := [(6, .int r_16), (0, .ref (a 0)), (1, .int x1), (2, .int x2), (4, .int x4), (5, .int x5)]) hx hb dX5_turn_51 hl (by decide) rfl (fun ls hl => ?_)
      refine lv_iconst (v := 2) hx hb dX5_turn_53 (by decide) ?_
      refine lv_iload_n hx hb dX5_turn_54 rfl (lv_at hl 2 rfl) ?_
      refine lv_imul hx hb dX5_turn_55 ?_
      refine lv_iconst (v := 1) hx hb dX5_turn_56 (by decide) ?_
      refine lv_isub hx hb dX5_turn_57 ?_
      refine lv_iload hx hb dX5_turn_58 (lv_at hl 0 rfl) ?_
      refine lv_isub hx hb dX5_turn_60 ?_
      refine lv_topi (fun y_18 ey_18 => ?_)
      have hf := mm_nms hf ey_18
      refine lv_istore (lv' := [(7, .int y_18), (6, .int r_16), (0, .ref (a 0)), (1, .int x1), (2, .int x2), (4, .int x4), (5, .int x5)]) hx hb dX5_turn_61 hl (by decide) rfl (fun ls hl => ?_)
      refine lv_aload_n hx hb dX5_turn_63 rfl (lv_at hl 2 rfl) ?_
      refine lv_iload hx hb dX5_turn_64 (lv_at hl 0 rfl) ?_
      refine lv_aload_n hx hb dX5_turn_66 rfl (lv_at hl 2 rfl) ?_
      refine lv_iload hx hb dX5_turn_67 (lv_at hl 6 rfl) ?_
      refine lv_iload_n hx hb dX5_turn_69 rfl (lv_at hl 4 rfl) ?_
      obtain ⟨r_19, hc_20, hf⟩ := mm_bd1s hf
      refine mm_callVF (q0 := 0) (ci := 5) (rest := [.int y_18, .ref (a 0)]) C0 lk_X5_138 (ctX5_across (a := a) (d := d - 1) (by omega) hc_20) (by omega) rfl hl.1 rfl (mm_cat rfl) dX5_turn_70 hP hD hA hS rfl rfl (fun H locs hP hD hS => ?_)
      refine W.eq (g2 := F0 m 73 ls [.int r_19, .int y_18, .ref (a 0)]) rfl ?_
      refine lv_iload_n hx hb dX5_turn_73 rfl (lv_at hl 4 rfl) ?_
      obtain ⟨r_21, hc_22, hf⟩ := mm_bd1s hf
      refine mm_callVF (q0 := 0) (ci := 5) (rest := []) C0 lk_X5_162 (ctX5_tallAt (a := a) (d := d - 1) (by omega) hc_22) (by omega) rfl hl.1 rfl (mm_cat rfl) dX5_turn_74 hP hD hA hS rfl rfl (fun H locs hP hD hS => ?_)
      refine W.eq (g2 := F0 m 77 ls [.int r_21]) rfl ?_
      refine lv_istore (lv' := [(8, .int r_21), (7, .int y_18), (6, .int r_16), (0, .ref (a 0)), (1, .int x1), (2, .int x2), (4, .int x4), (5, .int x5)]) hx hb dX5_turn_77 hl (by decide) rfl (fun ls hl => ?_)
      refine lv_iload hx hb dX5_turn_79 (lv_at hl 2 rfl) ?_
      refine lv_iload_n hx hb dX5_turn_81 rfl (lv_at hl 4 rfl) ?_
      refine lv_icmp_ge (tgt := 89) hx hb dX5_turn_82 (by decide) (fun c_23 => ?_) (fun c_23 => ?_)
      · have hf := mm_ip hf c_23
        refine lv_iconst (v := 0) hx hb dX5_turn_89 (by decide) ?_
        exact tX5_turn_90 hd C0 hA N ih _ _ _ _ _ _ _ _ _ _ _ _ _ _ _ _ _ H locs ls hf hP hD hS (lv_sub hl [3, 4, 5, 6, 7, 2, 1, 0] rfl)
      · have hf := mm_in hf c_23
        refine lv_iconst (v := 1) hx hb dX5_turn_85 (by decide) ?_
        refine lv_goto (tgt := 90) hx hb dX5_turn_86 (by decide) ?_
        exact tX5_turn_90 hd C0 hA N ih _ _ _ _ _ _ _ _ _ _ _ _ _ _ _ _ _ H locs ls hf hP hD hS (lv_sub hl [3, 4, 5, 6, 7, 2, 1, 0] rfl)

def fX5_turn_30 (N : Nat)  (x1 : Int32) (x2 : Int32) (s0 : Int32) (v_rows : Int32) (v_cols : Int32) (v_high : Int32) (v_wide : Int32) (v_rowOf : List Int32) (v_colOf : List Int32) (v_below : List Int32) (v_face : List Int32) (v_tall : List Int32) : Option (Int32 × Int32 × List Int32 × List Int32 × List Int32 × List Int32 × List Int32) :=
    fX5_turn_35 N N x1 x2 s0 (0 : Int32) v_rows v_cols v_high v_wide v_rowOf v_colOf v_below v_face v_tall

set_option maxHeartbeats 4000000 in
set_option maxRecDepth 100000 in
theorem tX5_turn_30 {p : Program} {l : Launch} {e : Env} {s : State} {m : MethodId} {args : Array Value} {below : List Frame} {meth : Method} {c : Code} {D : va_G} {cI cL cS cH : ClassId} {A : Nat → Prop} {d : Nat} {a : Nat → Nat} (hd : 3 ≤ d) (C0 : mm_Cx p s m args meth c RX5 cX5_turn 10 none D (mm_T cI cL cS cH) A) (hA : ∀ q, s.heap.size ≤ q → A q) {v_folds : Int32} {v_wrong : Int32} {v_more : Int32} {v_worn : List Int32} {v_last : List Int32} {v_bend : List Int32} {w_high : Int32} {w_wide : Int32} {w_rowOf : List Int32} {w_colOf : List Int32} {w_below : List Int32} {w_face : List Int32} {w_tall : List Int32} (N : Nat)  : ∀ (x1 : Int32) (x2 : Int32) (s0 : Int32) (v_rows : Int32) (v_cols : Int32) (v_high : Int32) (v_wide : Int32) (v_rowOf : List Int32) (v_colOf : List Int32) (v_below : List Int32) (v_face : List Int32) (v_tall : List Int32) (H : Heap) (locs : List Loc) (ls : Array Slot), fX5_turn_30 N x1 x2 s0 v_rows v_cols v_high v_wide v_rowOf v_colOf v_below v_face v_tall = some (w_high, w_wide, w_rowOf, w_colOf, w_below, w_face, w_tall) → va_P D mm_cl (wd_X5 cI cL cS cH a v_rows v_cols v_high v_wide v_folds v_wrong v_more v_rowOf v_colOf v_below v_face v_worn v_last v_bend v_tall) H → va_D A (wd_X5 cI cL cS cH a v_rows v_cols v_high v_wide v_folds v_wrong v_more v_rowOf v_colOf v_below v_face v_worn v_last v_bend v_tall) → va_S A s.heap H locs → lv_has ls 10 [(0, .ref (a 0)), (1, .int x1), (2, .int x2)] → W p l e (mm_rr d) s m args below meth c H locs 0 0 (mm_Z below D A (wd_X5 cI cL cS cH a v_rows v_cols w_high w_wide v_folds v_wrong v_more w_rowOf w_colOf w_below w_face v_worn v_last v_bend w_tall) none args s) (F0 m 30 ls [.int s0]) := by
  obtain ⟨hx, hb, hml, hown, hts, hr, hlocks, hK, hSt⟩ := id C0
  intro x1 x2 s0 v_rows v_cols v_high v_wide v_rowOf v_colOf v_below v_face v_tall H locs ls hf hP hD hS hl
  unfold fX5_turn_30 at hf
  refine lv_istore (lv' := [(4, .int s0), (0, .ref (a 0)), (1, .int x1), (2, .int x2)]) hx hb dX5_turn_30 hl (by decide) rfl (fun ls hl => ?_)
  refine lv_iconst (v := 0) hx hb dX5_turn_32 (by decide) ?_
  refine lv_istore (lv' := [(5, .int (0 : Int32)), (4, .int s0), (0, .ref (a 0)), (1, .int x1), (2, .int x2)]) hx hb dX5_turn_33 hl (by decide) rfl (fun ls hl => ?_)
  exact tX5_turn_35 hd C0 hA N  N _ _ _ _ _ _ _ _ _ _ _ _ _ H locs ls hf hP hD hS (lv_sub hl [2, 3, 4, 1, 0] rfl)

def fX5_turn (N : Nat) (x1 : Int32) (x2 : Int32) (v_rows : Int32) (v_cols : Int32) (v_high : Int32) (v_wide : Int32) (v_rowOf : List Int32) (v_colOf : List Int32) (v_below : List Int32) (v_face : List Int32) (v_tall : List Int32) : Option (Int32 × Int32 × List Int32 × List Int32 × List Int32 × List Int32 × List Int32) :=
    mm_bd1 (fX5_measurePiles N v_rows v_cols v_rowOf v_colOf v_tall) (fun (w_1 : List Int32) =>
    mm_bd1 (fX5_span N x2 v_high v_wide) (fun (r_3 : Int32) =>
    mm_bd1 (fX5_comesFromStart N x2) (fun (r_5 : Bool) =>
    if r_5 = false then
    (fX5_turn_30 N x1 x2 (mm_min (0 : Int32) (((2 : Int32) * x1) - r_3)) v_rows v_cols v_high v_wide v_rowOf v_colOf v_below v_face w_1)
    else (fX5_turn_30 N x1 x2 x1 v_rows v_cols v_high v_wide v_rowOf v_colOf v_below v_face w_1))))

set_option maxHeartbeats 4000000 in
set_option maxRecDepth 100000 in
theorem ctX5_turn {l : Launch} {D : va_G} {cI cL cS cH : ClassId} {a : Nat → Nat} {x1 : Int32} {x2 : Int32} {v_rows : Int32} {v_cols : Int32} {v_high : Int32} {v_wide : Int32} {v_folds : Int32} {v_wrong : Int32} {v_more : Int32} {v_rowOf : List Int32} {v_colOf : List Int32} {v_below : List Int32} {v_face : List Int32} {v_worn : List Int32} {v_last : List Int32} {v_bend : List Int32} {v_tall : List Int32} {w_high : Int32} {w_wide : Int32} {w_rowOf : List Int32} {w_colOf : List Int32} {w_below : List Int32} {w_face : List Int32} {w_tall : List Int32} {N d : Nat} (hd : 3 ≤ d) (hf : fX5_turn N x1 x2 v_rows v_cols v_high v_wide v_rowOf v_colOf v_below v_face v_tall = some (w_high, w_wide, w_rowOf, w_colOf, w_below, w_face, w_tall)) : mm_Ct l yX5_turn cX5_turn 10 none d D (mm_T cI cL cS cH) [.ref (a 0), .int x1, .int x2] (wd_X5 cI cL cS cH a v_rows v_cols v_high v_wide v_folds v_wrong v_more v_rowOf v_colOf v_below v_face v_worn v_last v_bend v_tall) (wd_X5 cI cL cS cH a v_rows v_cols w_high w_wide v_folds v_wrong v_more w_rowOf w_colOf w_below w_face v_worn v_last v_bend w_tall) none := by
  refine mm_of (by decide) (Nat.le_of_ble_eq_true rfl) ?_
  intro p e s m args below meth c A H locs ls C0 hP hD hA hS hl
  have C0 : mm_Cx p s m args meth c RX5 cX5_turn 10 none D (mm_T cI cL cS cH) A := C0
  obtain ⟨hx, hb, hml, hown, hts, hr, hlocks, hK, hSt⟩ := id C0
  have hl : lv_has ls 10 [(0, .ref (a 0)), (1, .int x1), (2, .int x2)] := hl
  unfold fX5_turn at hf
  refine lv_aload_n hx hb dX5_turn_0 rfl (lv_at hl 0 rfl) ?_
  obtain ⟨w_1, hc_2, hf⟩ := mm_bd1s hf
  refine mm_callVF (q0 := 0) (ci := 5) (rest := []) C0 lk_X5_159 (ctX5_measurePiles (a := a) (d := d - 1) (by omega) hc_2) (by omega) rfl hl.1 rfl (mm_cat rfl) dX5_turn_1 hP hD hA hS rfl rfl (fun H locs hP hD hS => ?_)
  refine W.eq (g2 := F0 m 4 ls []) rfl ?_
  refine lv_aload_n hx hb dX5_turn_4 rfl (lv_at hl 0 rfl) ?_
  refine lv_iload_n hx hb dX5_turn_5 rfl (lv_at hl 2 rfl) ?_
  obtain ⟨r_3, hc_4, hf⟩ := mm_bd1s hf
  refine mm_callVF (q0 := 0) (ci := 5) (rest := []) C0 lk_X5_88 (ctX5_span (a := a) (d := d - 1) (by omega) hc_4) (by omega) rfl hl.1 rfl (mm_cat rfl) dX5_turn_6 hP hD hA hS rfl rfl (fun H locs hP hD hS => ?_)
  refine W.eq (g2 := F0 m 9 ls [.int r_3]) rfl ?_
  refine lv_istore_n (lv' := [(3, .int r_3), (0, .ref (a 0)), (1, .int x1), (2, .int x2)]) hx hb dX5_turn_9 rfl hl (by decide) rfl (fun ls hl => ?_)
  refine lv_iload_n hx hb dX5_turn_10 rfl (lv_at hl 3 rfl) ?_
  obtain ⟨r_5, hc_6, hf⟩ := mm_bd1s hf
  refine mm_callS0 (rest := []) C0 lk_X5_135 (ctX5_comesFromStart (d := d - 1) (by omega) hc_6) (by omega) rfl hl.1 rfl (mm_cat rfl) dX5_turn_11 hP hD hA hS (fun H locs hP hS => ?_)
  refine W.eq (g2 := F0 m 14 ls [.int (mm_b r_5)]) rfl ?_
  refine lv_if_eq (tgt := 21) hx hb dX5_turn_14 (by decide) (fun c_7 => ?_) (fun c_7 => ?_)
  · have hf := mm_ip hf (mm_b0 c_7)
    refine lv_iconst (v := 0) hx hb dX5_turn_21 (by decide) ?_
    refine lv_iconst (v := 2) hx hb dX5_turn_22 (by decide) ?_
    refine lv_iload_n hx hb dX5_turn_23 rfl (lv_at hl 2 rfl) ?_
    refine lv_imul hx hb dX5_turn_24 ?_
    refine lv_iload_n hx hb dX5_turn_25 rfl (lv_at hl 0 rfl) ?_
    refine lv_isub hx hb dX5_turn_26 ?_
    refine mm_mmin C0 lm_X5_156 (by omega) hl.1 (mm_cat rfl) dX5_turn_27 ?_
    exact tX5_turn_30 hd C0 hA N  _ _ _ _ _ _ _ _ _ _ _ _ H locs ls hf hP hD hS (lv_sub hl [1, 2, 3] rfl)
  · have hf := mm_in hf (mm_b1 c_7)
    refine lv_iload_n hx hb dX5_turn_17 rfl (lv_at hl 2 rfl) ?_
    refine lv_goto (tgt := 30) hx hb dX5_turn_18 (by decide) ?_
    exact tX5_turn_30 hd C0 hA N  _ _ _ _ _ _ _ _ _ _ _ _ H locs ls hf hP hD hS (lv_sub hl [1, 2, 3] rfl)

