section
/-! parts: X5_comesOver, X5_bendAt, X5_comesFromStart, X5_bendBetween, X5_markBends, X5_measurePiles, X5_narrow, X5_setAlong, X5_tallAt, X5_turn -/
theorem nb_dX5_comesOver_0 : bls_w cX5_comesOver [(0, [26]), (1, [4]), (2, [126]), (3, [154, 0, 7]), (6, [4]), (7, [167, 0, 4]), (10, [3]), (11, [172])] := bls_of (by decide +kernel)
theorem dX5_comesOver_0 : decode cX5_comesOver 0 = .ok (.iload_n 0, 1) := op_26 nb_dX5_comesOver_0.1
theorem dX5_comesOver_1 : decode cX5_comesOver 1 = .ok (.iconst 1, 1) := op_4 nb_dX5_comesOver_0.2.1
theorem dX5_comesOver_2 : decode cX5_comesOver 2 = .ok (.iand, 1) := op_126 nb_dX5_comesOver_0.2.2.1
set_option maxRecDepth 100000 in
theorem dX5_comesOver_3 : decode cX5_comesOver 3 = .ok (.ifCond .ne 7, 3) := (op_154 nb_dX5_comesOver_0.2.2.2.1).trans rfl
theorem dX5_comesOver_6 : decode cX5_comesOver 6 = .ok (.iconst 1, 1) := op_4 nb_dX5_comesOver_0.2.2.2.2.1
set_option maxRecDepth 100000 in
theorem dX5_comesOver_7 : decode cX5_comesOver 7 = .ok (.goto 4, 3) := (op_167 nb_dX5_comesOver_0.2.2.2.2.2.1).trans rfl
theorem dX5_comesOver_10 : decode cX5_comesOver 10 = .ok (.iconst 0, 1) := op_3 nb_dX5_comesOver_0.2.2.2.2.2.2.1
theorem dX5_comesOver_11 : decode cX5_comesOver 11 = .ok (.ireturn, 1) := op_172 nb_dX5_comesOver_0.2.2.2.2.2.2.2.1
def fX5_comesOver (N : Nat) (x0 : Int32) : Option (Bool) :=
    if (x0 &&& (1 : Int32)) = 0 then
    (some (true))
    else (some (false))

set_option maxHeartbeats 4000000 in
set_option maxRecDepth 100000 in
theorem ctX5_comesOver {l : Launch} {D : va_G} {cI cL cS cH : ClassId} {x0 : Int32}  {r : Bool} {N d : Nat} (hd : 1 ≤ d) (hf : fX5_comesOver N x0 = some r) : mm_Ct l yX5_comesOver cX5_comesOver 1 (some .boolean) d D (mm_T cI cL cS cH) [.int x0] ([] : va_W) ([] : va_W) (some (.int (mm_b r))) := by
  refine mm_of (by decide) (Nat.le_of_ble_eq_true rfl) ?_
  intro p e s m args below meth c A H locs ls C0 hP hD hA hS hl
  have C0 : mm_Cx p s m args meth c RX5 cX5_comesOver 1 (some .boolean) D (mm_T cI cL cS cH) A := C0
  obtain ⟨hx, hb, hml, hown, hts, hr, hlocks, hK, hSt⟩ := id C0
  have hl : lv_has ls 1 [(0, .int x0)] := hl
  unfold fX5_comesOver at hf
  refine lv_iload_n hx hb dX5_comesOver_0 rfl (lv_at hl 0 rfl) ?_
  refine lv_iconst (v := 1) hx hb dX5_comesOver_1 (by decide) ?_
  refine lv_iand hx hb dX5_comesOver_2 ?_
  refine lv_if_ne (tgt := 10) hx hb dX5_comesOver_3 (by decide) (fun c_1 => ?_) (fun c_1 => ?_)
  · have hf := mm_in hf c_1
    refine lv_iconst (v := 0) hx hb dX5_comesOver_10 (by decide) ?_
    obtain rfl := mm_inj1 hf
    exact mm_zret (v := false) C0 hP hD hS dX5_comesOver_11 (by decide)
  · have hf := mm_ip hf c_1
    refine lv_iconst (v := 1) hx hb dX5_comesOver_6 (by decide) ?_
    refine lv_goto (tgt := 11) hx hb dX5_comesOver_7 (by decide) ?_
    obtain rfl := mm_inj1 hf
    exact mm_zret (v := true) C0 hP hD hS dX5_comesOver_11 (by decide)

theorem nb_dX5_bendAt_0 : bls_w cX5_bendAt [(0, [42]), (1, [180, 0, 21]), (4, [27]), (5, [46]), (6, [154, 0, 7]), (9, [4]), (10, [167, 0, 4]), (13, [3]), (14, [28]), (15, [184, 0, 147]), (18, [160, 0, 7]), (21, [4])] := bls_of (by decide +kernel)
theorem dX5_bendAt_0 : decode cX5_bendAt 0 = .ok (.aload_n 0, 1) := op_42 nb_dX5_bendAt_0.1
set_option maxRecDepth 100000 in
theorem dX5_bendAt_1 : decode cX5_bendAt 1 = .ok (.getfield 21, 3) := (op_180 nb_dX5_bendAt_0.2.1).trans rfl
theorem dX5_bendAt_4 : decode cX5_bendAt 4 = .ok (.iload_n 1, 1) := op_27 nb_dX5_bendAt_0.2.2.1
theorem dX5_bendAt_5 : decode cX5_bendAt 5 = .ok (.iaload, 1) := op_46 nb_dX5_bendAt_0.2.2.2.1
set_option maxRecDepth 100000 in
theorem dX5_bendAt_6 : decode cX5_bendAt 6 = .ok (.ifCond .ne 7, 3) := (op_154 nb_dX5_bendAt_0.2.2.2.2.1).trans rfl
theorem dX5_bendAt_9 : decode cX5_bendAt 9 = .ok (.iconst 1, 1) := op_4 nb_dX5_bendAt_0.2.2.2.2.2.1
set_option maxRecDepth 100000 in
theorem dX5_bendAt_10 : decode cX5_bendAt 10 = .ok (.goto 4, 3) := (op_167 nb_dX5_bendAt_0.2.2.2.2.2.2.1).trans rfl
theorem dX5_bendAt_13 : decode cX5_bendAt 13 = .ok (.iconst 0, 1) := op_3 nb_dX5_bendAt_0.2.2.2.2.2.2.2.1
theorem dX5_bendAt_14 : decode cX5_bendAt 14 = .ok (.iload_n 2, 1) := op_28 nb_dX5_bendAt_0.2.2.2.2.2.2.2.2.1
set_option maxRecDepth 100000 in
theorem dX5_bendAt_15 : decode cX5_bendAt 15 = .ok (.invokestatic 147, 3) := (op_184 nb_dX5_bendAt_0.2.2.2.2.2.2.2.2.2.1).trans rfl
set_option maxRecDepth 100000 in
theorem dX5_bendAt_18 : decode cX5_bendAt 18 = .ok (.if_icmp .ne 7, 3) := (op_160 nb_dX5_bendAt_0.2.2.2.2.2.2.2.2.2.2.1).trans rfl
theorem dX5_bendAt_21 : decode cX5_bendAt 21 = .ok (.iconst 1, 1) := op_4 nb_dX5_bendAt_0.2.2.2.2.2.2.2.2.2.2.2.1
theorem nb_dX5_bendAt_22 : bls_w cX5_bendAt [(22, [167, 0, 4]), (25, [5]), (26, [172])] := bls_of (by decide +kernel)
set_option maxRecDepth 100000 in
theorem dX5_bendAt_22 : decode cX5_bendAt 22 = .ok (.goto 4, 3) := (op_167 nb_dX5_bendAt_22.1).trans rfl
theorem dX5_bendAt_25 : decode cX5_bendAt 25 = .ok (.iconst 2, 1) := op_5 nb_dX5_bendAt_22.2.1
theorem dX5_bendAt_26 : decode cX5_bendAt 26 = .ok (.ireturn, 1) := op_172 nb_dX5_bendAt_22.2.2.1
def fX5_bendAt_14 (N : Nat)  (x2 : Int32) (s0 : Int32) (v_face : List Int32) : Option (Int32) :=
    mm_bd1 (fX5_comesOver N x2) (fun (r_3 : Bool) =>
    if s0 = (mm_b r_3) then
    (some ((1 : Int32)))
    else (some ((2 : Int32))))

set_option maxHeartbeats 4000000 in
set_option maxRecDepth 100000 in
theorem tX5_bendAt_14 {p : Program} {l : Launch} {e : Env} {s : State} {m : MethodId} {args : Array Value} {below : List Frame} {meth : Method} {c : Code} {D : va_G} {cI cL cS cH : ClassId} {A : Nat → Prop} {d : Nat} {a : Nat → Nat} (hd : 2 ≤ d) (C0 : mm_Cx p s m args meth c RX5 cX5_bendAt 3 (some .int) D (mm_T cI cL cS cH) A) (hA : ∀ q, s.heap.size ≤ q → A q) {v_rows : Int32} {v_cols : Int32} {v_high : Int32} {v_wide : Int32} {v_folds : Int32} {v_wrong : Int32} {v_more : Int32} {v_rowOf : List Int32} {v_colOf : List Int32} {v_below : List Int32} {v_worn : List Int32} {v_last : List Int32} {v_bend : List Int32} {v_tall : List Int32} {r : Int32} (N : Nat)  : ∀ (x2 : Int32) (s0 : Int32) (v_face : List Int32) (H : Heap) (locs : List Loc) (ls : Array Slot), fX5_bendAt_14 N x2 s0 v_face = some r → va_P D mm_cl (wd_X5 cI cL cS cH a v_rows v_cols v_high v_wide v_folds v_wrong v_more v_rowOf v_colOf v_below v_face v_worn v_last v_bend v_tall) H → va_D A (wd_X5 cI cL cS cH a v_rows v_cols v_high v_wide v_folds v_wrong v_more v_rowOf v_colOf v_below v_face v_worn v_last v_bend v_tall) → va_S A s.heap H locs → lv_has ls 3 [(2, .int x2)] → W p l e (mm_rr d) s m args below meth c H locs 0 0 (mm_Z below D A (wd_X5 cI cL cS cH a v_rows v_cols v_high v_wide v_folds v_wrong v_more v_rowOf v_colOf v_below v_face v_worn v_last v_bend v_tall) (some (.int r)) args s) (F0 m 14 ls [.int s0]) := by
  obtain ⟨hx, hb, hml, hown, hts, hr, hlocks, hK, hSt⟩ := id C0
  intro x2 s0 v_face H locs ls hf hP hD hS hl
  unfold fX5_bendAt_14 at hf
  refine lv_iload_n hx hb dX5_bendAt_14 rfl (lv_at hl 0 rfl) ?_
  obtain ⟨r_3, hc_4, hf⟩ := mm_bd1s hf
  refine mm_callS0 (rest := [.int s0]) C0 lk_X5_147 (ctX5_comesOver (d := d - 1) (by omega) hc_4) (by omega) rfl hl.1 rfl (mm_cat rfl) dX5_bendAt_15 hP hD hA hS (fun H locs hP hS => ?_)
  refine W.eq (g2 := F0 m 18 ls [.int (mm_b r_3), .int s0]) rfl ?_
  refine lv_icmp_ne (tgt := 25) hx hb dX5_bendAt_18 (by decide) (fun c_5 => ?_) (fun c_5 => ?_)
  · have hf := mm_in hf c_5
    refine lv_iconst (v := 2) hx hb dX5_bendAt_25 (by decide) ?_
    obtain rfl := mm_inj1 hf
    exact mm_iret C0 hP hD hS dX5_bendAt_26
  · have hf := mm_ip hf c_5
    refine lv_iconst (v := 1) hx hb dX5_bendAt_21 (by decide) ?_
    refine lv_goto (tgt := 26) hx hb dX5_bendAt_22 (by decide) ?_
    obtain rfl := mm_inj1 hf
    exact mm_iret C0 hP hD hS dX5_bendAt_26

def fX5_bendAt (N : Nat) (x1 : Int32) (x2 : Int32) (v_face : List Int32) : Option (Int32) :=
    mm_ck (mm_inb x1 v_face.length) (if (mm_ig v_face x1) = 0 then
    (fX5_bendAt_14 N x2 (1 : Int32) v_face)
    else (fX5_bendAt_14 N x2 (0 : Int32) v_face))

set_option maxHeartbeats 4000000 in
set_option maxRecDepth 100000 in
theorem ctX5_bendAt {l : Launch} {D : va_G} {cI cL cS cH : ClassId} {a : Nat → Nat} {x1 : Int32} {x2 : Int32} {v_rows : Int32} {v_cols : Int32} {v_high : Int32} {v_wide : Int32} {v_folds : Int32} {v_wrong : Int32} {v_more : Int32} {v_rowOf : List Int32} {v_colOf : List Int32} {v_below : List Int32} {v_face : List Int32} {v_worn : List Int32} {v_last : List Int32} {v_bend : List Int32} {v_tall : List Int32} {r : Int32} {N d : Nat} (hd : 2 ≤ d) (hf : fX5_bendAt N x1 x2 v_face = some r) : mm_Ct l yX5_bendAt cX5_bendAt 3 (some .int) d D (mm_T cI cL cS cH) [.ref (a 0), .int x1, .int x2] (wd_X5 cI cL cS cH a v_rows v_cols v_high v_wide v_folds v_wrong v_more v_rowOf v_colOf v_below v_face v_worn v_last v_bend v_tall) (wd_X5 cI cL cS cH a v_rows v_cols v_high v_wide v_folds v_wrong v_more v_rowOf v_colOf v_below v_face v_worn v_last v_bend v_tall) (some (.int r)) := by
  refine mm_of (by decide) (Nat.le_of_ble_eq_true rfl) ?_
  intro p e s m args below meth c A H locs ls C0 hP hD hA hS hl
  have C0 : mm_Cx p s m args meth c RX5 cX5_bendAt 3 (some .int) D (mm_T cI cL cS cH) A := C0
  obtain ⟨hx, hb, hml, hown, hts, hr, hlocks, hK, hSt⟩ := id C0
  have hl : lv_has ls 3 [(0, .ref (a 0)), (1, .int x1), (2, .int x2)] := hl
  unfold fX5_bendAt at hf
  refine lv_aload_n hx hb dX5_bendAt_0 rfl (lv_at hl 0 rfl) ?_
  refine mm_get C0 hP iw_X5 0 rfl rfl 10 (by decide) fl_X5_21 rfl dX5_bendAt_1 ?_
  refine lv_iload_n hx hb dX5_bendAt_4 rfl (lv_at hl 1 rfl) ?_
  obtain ⟨h_1, hf⟩ := mm_cks hf
  refine mm_iald C0 hP 4 rfl h_1 dX5_bendAt_5 ?_
  refine lv_if_ne (tgt := 13) hx hb dX5_bendAt_6 (by decide) (fun c_2 => ?_) (fun c_2 => ?_)
  · have hf := mm_in hf c_2
    refine lv_iconst (v := 0) hx hb dX5_bendAt_13 (by decide) ?_
    exact tX5_bendAt_14 hd C0 hA N  _ _ _ H locs ls hf hP hD hS (lv_sub hl [2] rfl)
  · have hf := mm_ip hf c_2
    refine lv_iconst (v := 1) hx hb dX5_bendAt_9 (by decide) ?_
    refine lv_goto (tgt := 14) hx hb dX5_bendAt_10 (by decide) ?_
    exact tX5_bendAt_14 hd C0 hA N  _ _ _ H locs ls hf hP hD hS (lv_sub hl [2] rfl)

theorem nb_dX5_comesFromStart_0 : bls_w cX5_comesFromStart [(0, [26]), (1, [5]), (2, [126]), (3, [154, 0, 7]), (6, [4]), (7, [167, 0, 4]), (10, [3]), (11, [172])] := bls_of (by decide +kernel)
theorem dX5_comesFromStart_0 : decode cX5_comesFromStart 0 = .ok (.iload_n 0, 1) := op_26 nb_dX5_comesFromStart_0.1
theorem dX5_comesFromStart_1 : decode cX5_comesFromStart 1 = .ok (.iconst 2, 1) := op_5 nb_dX5_comesFromStart_0.2.1
theorem dX5_comesFromStart_2 : decode cX5_comesFromStart 2 = .ok (.iand, 1) := op_126 nb_dX5_comesFromStart_0.2.2.1
set_option maxRecDepth 100000 in
theorem dX5_comesFromStart_3 : decode cX5_comesFromStart 3 = .ok (.ifCond .ne 7, 3) := (op_154 nb_dX5_comesFromStart_0.2.2.2.1).trans rfl
theorem dX5_comesFromStart_6 : decode cX5_comesFromStart 6 = .ok (.iconst 1, 1) := op_4 nb_dX5_comesFromStart_0.2.2.2.2.1
set_option maxRecDepth 100000 in
theorem dX5_comesFromStart_7 : decode cX5_comesFromStart 7 = .ok (.goto 4, 3) := (op_167 nb_dX5_comesFromStart_0.2.2.2.2.2.1).trans rfl
theorem dX5_comesFromStart_10 : decode cX5_comesFromStart 10 = .ok (.iconst 0, 1) := op_3 nb_dX5_comesFromStart_0.2.2.2.2.2.2.1
theorem dX5_comesFromStart_11 : decode cX5_comesFromStart 11 = .ok (.ireturn, 1) := op_172 nb_dX5_comesFromStart_0.2.2.2.2.2.2.2.1
def fX5_comesFromStart (N : Nat) (x0 : Int32) : Option (Bool) :=
    if (x0 &&& (2 : Int32)) = 0 then
    (some (true))
    else (some (false))

set_option maxHeartbeats 4000000 in
set_option maxRecDepth 100000 in
theorem ctX5_comesFromStart {l : Launch} {D : va_G} {cI cL cS cH : ClassId} {x0 : Int32}  {r : Bool} {N d : Nat} (hd : 1 ≤ d) (hf : fX5_comesFromStart N x0 = some r) : mm_Ct l yX5_comesFromStart cX5_comesFromStart 1 (some .boolean) d D (mm_T cI cL cS cH) [.int x0] ([] : va_W) ([] : va_W) (some (.int (mm_b r))) := by
  refine mm_of (by decide) (Nat.le_of_ble_eq_true rfl) ?_
  intro p e s m args below meth c A H locs ls C0 hP hD hA hS hl
  have C0 : mm_Cx p s m args meth c RX5 cX5_comesFromStart 1 (some .boolean) D (mm_T cI cL cS cH) A := C0
  obtain ⟨hx, hb, hml, hown, hts, hr, hlocks, hK, hSt⟩ := id C0
  have hl : lv_has ls 1 [(0, .int x0)] := hl
  unfold fX5_comesFromStart at hf
  refine lv_iload_n hx hb dX5_comesFromStart_0 rfl (lv_at hl 0 rfl) ?_
  refine lv_iconst (v := 2) hx hb dX5_comesFromStart_1 (by decide) ?_
  refine lv_iand hx hb dX5_comesFromStart_2 ?_
  refine lv_if_ne (tgt := 10) hx hb dX5_comesFromStart_3 (by decide) (fun c_1 => ?_) (fun c_1 => ?_)
  · have hf := mm_in hf c_1
    refine lv_iconst (v := 0) hx hb dX5_comesFromStart_10 (by decide) ?_
    obtain rfl := mm_inj1 hf
    exact mm_zret (v := false) C0 hP hD hS dX5_comesFromStart_11 (by decide)
  · have hf := mm_ip hf c_1
    refine lv_iconst (v := 1) hx hb dX5_comesFromStart_6 (by decide) ?_
    refine lv_goto (tgt := 11) hx hb dX5_comesFromStart_7 (by decide) ?_
    obtain rfl := mm_inj1 hf
    exact mm_zret (v := true) C0 hP hD hS dX5_comesFromStart_11 (by decide)

theorem nb_dX5_bendBetween_0 : bls_w cX5_bendBetween [(0, [21, 4]), (2, [184, 0, 135]), (5, [153, 0, 9]), (8, [29]), (9, [4]), (10, [100]), (11, [167, 0, 4]), (14, [29]), (15, [54, 5]), (17, [21, 4]), (19, [184, 0, 135]), (22, [153, 0, 7])] := bls_of (by decide +kernel)
set_option maxRecDepth 100000 in
theorem dX5_bendBetween_0 : decode cX5_bendBetween 0 = .ok (.iload 4, 2) := (op_21 nb_dX5_bendBetween_0.1).trans rfl
set_option maxRecDepth 100000 in
theorem dX5_bendBetween_2 : decode cX5_bendBetween 2 = .ok (.invokestatic 135, 3) := (op_184 nb_dX5_bendBetween_0.2.1).trans rfl
set_option maxRecDepth 100000 in
theorem dX5_bendBetween_5 : decode cX5_bendBetween 5 = .ok (.ifCond .eq 9, 3) := (op_153 nb_dX5_bendBetween_0.2.2.1).trans rfl
theorem dX5_bendBetween_8 : decode cX5_bendBetween 8 = .ok (.iload_n 3, 1) := op_29 nb_dX5_bendBetween_0.2.2.2.1
theorem dX5_bendBetween_9 : decode cX5_bendBetween 9 = .ok (.iconst 1, 1) := op_4 nb_dX5_bendBetween_0.2.2.2.2.1
theorem dX5_bendBetween_10 : decode cX5_bendBetween 10 = .ok (.isub, 1) := op_100 nb_dX5_bendBetween_0.2.2.2.2.2.1
set_option maxRecDepth 100000 in
theorem dX5_bendBetween_11 : decode cX5_bendBetween 11 = .ok (.goto 4, 3) := (op_167 nb_dX5_bendBetween_0.2.2.2.2.2.2.1).trans rfl
theorem dX5_bendBetween_14 : decode cX5_bendBetween 14 = .ok (.iload_n 3, 1) := op_29 nb_dX5_bendBetween_0.2.2.2.2.2.2.2.1
set_option maxRecDepth 100000 in
theorem dX5_bendBetween_15 : decode cX5_bendBetween 15 = .ok (.istore 5, 2) := (op_54 nb_dX5_bendBetween_0.2.2.2.2.2.2.2.2.1).trans rfl
set_option maxRecDepth 100000 in
theorem dX5_bendBetween_17 : decode cX5_bendBetween 17 = .ok (.iload 4, 2) := (op_21 nb_dX5_bendBetween_0.2.2.2.2.2.2.2.2.2.1).trans rfl
set_option maxRecDepth 100000 in
theorem dX5_bendBetween_19 : decode cX5_bendBetween 19 = .ok (.invokestatic 135, 3) := (op_184 nb_dX5_bendBetween_0.2.2.2.2.2.2.2.2.2.2.1).trans rfl
set_option maxRecDepth 100000 in
theorem dX5_bendBetween_22 : decode cX5_bendBetween 22 = .ok (.ifCond .eq 7, 3) := (op_153 nb_dX5_bendBetween_0.2.2.2.2.2.2.2.2.2.2.2.1).trans rfl
theorem nb_dX5_bendBetween_25 : bls_w cX5_bendBetween [(25, [29]), (26, [167, 0, 6]), (29, [29]), (30, [4]), (31, [100]), (32, [54, 6]), (34, [42]), (35, [27]), (36, [21, 4]), (38, [182, 0, 138]), (41, [42]), (42, [28])] := bls_of (by decide +kernel)
theorem dX5_bendBetween_25 : decode cX5_bendBetween 25 = .ok (.iload_n 3, 1) := op_29 nb_dX5_bendBetween_25.1
set_option maxRecDepth 100000 in
theorem dX5_bendBetween_26 : decode cX5_bendBetween 26 = .ok (.goto 6, 3) := (op_167 nb_dX5_bendBetween_25.2.1).trans rfl
theorem dX5_bendBetween_29 : decode cX5_bendBetween 29 = .ok (.iload_n 3, 1) := op_29 nb_dX5_bendBetween_25.2.2.1
theorem dX5_bendBetween_30 : decode cX5_bendBetween 30 = .ok (.iconst 1, 1) := op_4 nb_dX5_bendBetween_25.2.2.2.1
theorem dX5_bendBetween_31 : decode cX5_bendBetween 31 = .ok (.isub, 1) := op_100 nb_dX5_bendBetween_25.2.2.2.2.1
set_option maxRecDepth 100000 in
theorem dX5_bendBetween_32 : decode cX5_bendBetween 32 = .ok (.istore 6, 2) := (op_54 nb_dX5_bendBetween_25.2.2.2.2.2.1).trans rfl
theorem dX5_bendBetween_34 : decode cX5_bendBetween 34 = .ok (.aload_n 0, 1) := op_42 nb_dX5_bendBetween_25.2.2.2.2.2.2.1
theorem dX5_bendBetween_35 : decode cX5_bendBetween 35 = .ok (.iload_n 1, 1) := op_27 nb_dX5_bendBetween_25.2.2.2.2.2.2.2.1
set_option maxRecDepth 100000 in
theorem dX5_bendBetween_36 : decode cX5_bendBetween 36 = .ok (.iload 4, 2) := (op_21 nb_dX5_bendBetween_25.2.2.2.2.2.2.2.2.1).trans rfl
set_option maxRecDepth 100000 in
theorem dX5_bendBetween_38 : decode cX5_bendBetween 38 = .ok (.invokevirtual 138, 3) := (op_182 nb_dX5_bendBetween_25.2.2.2.2.2.2.2.2.2.1).trans rfl
theorem dX5_bendBetween_41 : decode cX5_bendBetween 41 = .ok (.aload_n 0, 1) := op_42 nb_dX5_bendBetween_25.2.2.2.2.2.2.2.2.2.2.1
theorem dX5_bendBetween_42 : decode cX5_bendBetween 42 = .ok (.iload_n 2, 1) := op_28 nb_dX5_bendBetween_25.2.2.2.2.2.2.2.2.2.2.2.1
theorem nb_dX5_bendBetween_43 : bls_w cX5_bendBetween [(43, [21, 4]), (45, [182, 0, 138]), (48, [159, 0, 5]), (51, [3]), (52, [172]), (53, [42]), (54, [27]), (55, [21, 4]), (57, [182, 0, 141]), (60, [21, 5]), (62, [160, 0, 23]), (65, [42])] := bls_of (by decide +kernel)
set_option maxRecDepth 100000 in
theorem dX5_bendBetween_43 : decode cX5_bendBetween 43 = .ok (.iload 4, 2) := (op_21 nb_dX5_bendBetween_43.1).trans rfl
set_option maxRecDepth 100000 in
theorem dX5_bendBetween_45 : decode cX5_bendBetween 45 = .ok (.invokevirtual 138, 3) := (op_182 nb_dX5_bendBetween_43.2.1).trans rfl
set_option maxRecDepth 100000 in
theorem dX5_bendBetween_48 : decode cX5_bendBetween 48 = .ok (.if_icmp .eq 5, 3) := (op_159 nb_dX5_bendBetween_43.2.2.1).trans rfl
theorem dX5_bendBetween_51 : decode cX5_bendBetween 51 = .ok (.iconst 0, 1) := op_3 nb_dX5_bendBetween_43.2.2.2.1
theorem dX5_bendBetween_52 : decode cX5_bendBetween 52 = .ok (.ireturn, 1) := op_172 nb_dX5_bendBetween_43.2.2.2.2.1
theorem dX5_bendBetween_53 : decode cX5_bendBetween 53 = .ok (.aload_n 0, 1) := op_42 nb_dX5_bendBetween_43.2.2.2.2.2.1
theorem dX5_bendBetween_54 : decode cX5_bendBetween 54 = .ok (.iload_n 1, 1) := op_27 nb_dX5_bendBetween_43.2.2.2.2.2.2.1
set_option maxRecDepth 100000 in
theorem dX5_bendBetween_55 : decode cX5_bendBetween 55 = .ok (.iload 4, 2) := (op_21 nb_dX5_bendBetween_43.2.2.2.2.2.2.2.1).trans rfl
set_option maxRecDepth 100000 in
theorem dX5_bendBetween_57 : decode cX5_bendBetween 57 = .ok (.invokevirtual 141, 3) := (op_182 nb_dX5_bendBetween_43.2.2.2.2.2.2.2.2.1).trans rfl
set_option maxRecDepth 100000 in
theorem dX5_bendBetween_60 : decode cX5_bendBetween 60 = .ok (.iload 5, 2) := (op_21 nb_dX5_bendBetween_43.2.2.2.2.2.2.2.2.2.1).trans rfl
set_option maxRecDepth 100000 in
theorem dX5_bendBetween_62 : decode cX5_bendBetween 62 = .ok (.if_icmp .ne 23, 3) := (op_160 nb_dX5_bendBetween_43.2.2.2.2.2.2.2.2.2.2.1).trans rfl
theorem dX5_bendBetween_65 : decode cX5_bendBetween 65 = .ok (.aload_n 0, 1) := op_42 nb_dX5_bendBetween_43.2.2.2.2.2.2.2.2.2.2.2.1
theorem nb_dX5_bendBetween_66 : bls_w cX5_bendBetween [(66, [28]), (67, [21, 4]), (69, [182, 0, 141]), (72, [21, 6]), (74, [160, 0, 11]), (77, [42]), (78, [27]), (79, [21, 4]), (81, [182, 0, 144]), (84, [172]), (85, [42]), (86, [28])] := bls_of (by decide +kernel)
theorem dX5_bendBetween_66 : decode cX5_bendBetween 66 = .ok (.iload_n 2, 1) := op_28 nb_dX5_bendBetween_66.1
set_option maxRecDepth 100000 in
theorem dX5_bendBetween_67 : decode cX5_bendBetween 67 = .ok (.iload 4, 2) := (op_21 nb_dX5_bendBetween_66.2.1).trans rfl
set_option maxRecDepth 100000 in
theorem dX5_bendBetween_69 : decode cX5_bendBetween 69 = .ok (.invokevirtual 141, 3) := (op_182 nb_dX5_bendBetween_66.2.2.1).trans rfl
set_option maxRecDepth 100000 in
theorem dX5_bendBetween_72 : decode cX5_bendBetween 72 = .ok (.iload 6, 2) := (op_21 nb_dX5_bendBetween_66.2.2.2.1).trans rfl
set_option maxRecDepth 100000 in
theorem dX5_bendBetween_74 : decode cX5_bendBetween 74 = .ok (.if_icmp .ne 11, 3) := (op_160 nb_dX5_bendBetween_66.2.2.2.2.1).trans rfl
theorem dX5_bendBetween_77 : decode cX5_bendBetween 77 = .ok (.aload_n 0, 1) := op_42 nb_dX5_bendBetween_66.2.2.2.2.2.1
theorem dX5_bendBetween_78 : decode cX5_bendBetween 78 = .ok (.iload_n 1, 1) := op_27 nb_dX5_bendBetween_66.2.2.2.2.2.2.1
set_option maxRecDepth 100000 in
theorem dX5_bendBetween_79 : decode cX5_bendBetween 79 = .ok (.iload 4, 2) := (op_21 nb_dX5_bendBetween_66.2.2.2.2.2.2.2.1).trans rfl
set_option maxRecDepth 100000 in
theorem dX5_bendBetween_81 : decode cX5_bendBetween 81 = .ok (.invokevirtual 144, 3) := (op_182 nb_dX5_bendBetween_66.2.2.2.2.2.2.2.2.1).trans rfl
theorem dX5_bendBetween_84 : decode cX5_bendBetween 84 = .ok (.ireturn, 1) := op_172 nb_dX5_bendBetween_66.2.2.2.2.2.2.2.2.2.1
theorem dX5_bendBetween_85 : decode cX5_bendBetween 85 = .ok (.aload_n 0, 1) := op_42 nb_dX5_bendBetween_66.2.2.2.2.2.2.2.2.2.2.1
theorem dX5_bendBetween_86 : decode cX5_bendBetween 86 = .ok (.iload_n 2, 1) := op_28 nb_dX5_bendBetween_66.2.2.2.2.2.2.2.2.2.2.2.1
theorem nb_dX5_bendBetween_87 : bls_w cX5_bendBetween [(87, [21, 4]), (89, [182, 0, 141]), (92, [21, 5]), (94, [160, 0, 23]), (97, [42]), (98, [27]), (99, [21, 4]), (101, [182, 0, 141]), (104, [21, 6]), (106, [160, 0, 11]), (109, [42]), (110, [28])] := bls_of (by decide +kernel)
set_option maxRecDepth 100000 in
theorem dX5_bendBetween_87 : decode cX5_bendBetween 87 = .ok (.iload 4, 2) := (op_21 nb_dX5_bendBetween_87.1).trans rfl
set_option maxRecDepth 100000 in
theorem dX5_bendBetween_89 : decode cX5_bendBetween 89 = .ok (.invokevirtual 141, 3) := (op_182 nb_dX5_bendBetween_87.2.1).trans rfl
set_option maxRecDepth 100000 in
theorem dX5_bendBetween_92 : decode cX5_bendBetween 92 = .ok (.iload 5, 2) := (op_21 nb_dX5_bendBetween_87.2.2.1).trans rfl
set_option maxRecDepth 100000 in
theorem dX5_bendBetween_94 : decode cX5_bendBetween 94 = .ok (.if_icmp .ne 23, 3) := (op_160 nb_dX5_bendBetween_87.2.2.2.1).trans rfl
theorem dX5_bendBetween_97 : decode cX5_bendBetween 97 = .ok (.aload_n 0, 1) := op_42 nb_dX5_bendBetween_87.2.2.2.2.1
theorem dX5_bendBetween_98 : decode cX5_bendBetween 98 = .ok (.iload_n 1, 1) := op_27 nb_dX5_bendBetween_87.2.2.2.2.2.1
set_option maxRecDepth 100000 in
theorem dX5_bendBetween_99 : decode cX5_bendBetween 99 = .ok (.iload 4, 2) := (op_21 nb_dX5_bendBetween_87.2.2.2.2.2.2.1).trans rfl
set_option maxRecDepth 100000 in
theorem dX5_bendBetween_101 : decode cX5_bendBetween 101 = .ok (.invokevirtual 141, 3) := (op_182 nb_dX5_bendBetween_87.2.2.2.2.2.2.2.1).trans rfl
set_option maxRecDepth 100000 in
theorem dX5_bendBetween_104 : decode cX5_bendBetween 104 = .ok (.iload 6, 2) := (op_21 nb_dX5_bendBetween_87.2.2.2.2.2.2.2.2.1).trans rfl
set_option maxRecDepth 100000 in
theorem dX5_bendBetween_106 : decode cX5_bendBetween 106 = .ok (.if_icmp .ne 11, 3) := (op_160 nb_dX5_bendBetween_87.2.2.2.2.2.2.2.2.2.1).trans rfl
theorem dX5_bendBetween_109 : decode cX5_bendBetween 109 = .ok (.aload_n 0, 1) := op_42 nb_dX5_bendBetween_87.2.2.2.2.2.2.2.2.2.2.1
theorem dX5_bendBetween_110 : decode cX5_bendBetween 110 = .ok (.iload_n 2, 1) := op_28 nb_dX5_bendBetween_87.2.2.2.2.2.2.2.2.2.2.2.1
theorem nb_dX5_bendBetween_111 : bls_w cX5_bendBetween [(111, [21, 4]), (113, [182, 0, 144]), (116, [172]), (117, [3]), (118, [172])] := bls_of (by decide +kernel)
set_option maxRecDepth 100000 in
theorem dX5_bendBetween_111 : decode cX5_bendBetween 111 = .ok (.iload 4, 2) := (op_21 nb_dX5_bendBetween_111.1).trans rfl
set_option maxRecDepth 100000 in
theorem dX5_bendBetween_113 : decode cX5_bendBetween 113 = .ok (.invokevirtual 144, 3) := (op_182 nb_dX5_bendBetween_111.2.1).trans rfl
theorem dX5_bendBetween_116 : decode cX5_bendBetween 116 = .ok (.ireturn, 1) := op_172 nb_dX5_bendBetween_111.2.2.1
theorem dX5_bendBetween_117 : decode cX5_bendBetween 117 = .ok (.iconst 0, 1) := op_3 nb_dX5_bendBetween_111.2.2.2.1
theorem dX5_bendBetween_118 : decode cX5_bendBetween 118 = .ok (.ireturn, 1) := op_172 nb_dX5_bendBetween_111.2.2.2.2.1
def fX5_bendBetween_85 (N : Nat)  (x1 : Int32) (x2 : Int32) (x4 : Int32) (x5 : Int32) (x6 : Int32) (v_rowOf : List Int32) (v_colOf : List Int32) (v_face : List Int32) : Option (Int32) :=
    mm_bd1 (fX5_along N x2 x4 v_rowOf v_colOf) (fun (r_20 : Int32) =>
    if r_20 = x5 then
    (mm_bd1 (fX5_along N x1 x4 v_rowOf v_colOf) (fun (r_23 : Int32) =>
    if r_23 = x6 then
    (mm_bd1 (fX5_bendAt N x2 x4 v_face) (fun (r_26 : Int32) =>
    some (r_26)))
    else (some ((0 : Int32)))))
    else (some ((0 : Int32))))

set_option maxHeartbeats 4000000 in
set_option maxRecDepth 100000 in
theorem tX5_bendBetween_85 {p : Program} {l : Launch} {e : Env} {s : State} {m : MethodId} {args : Array Value} {below : List Frame} {meth : Method} {c : Code} {D : va_G} {cI cL cS cH : ClassId} {A : Nat → Prop} {d : Nat} {a : Nat → Nat} (hd : 3 ≤ d) (C0 : mm_Cx p s m args meth c RX5 cX5_bendBetween 7 (some .int) D (mm_T cI cL cS cH) A) (hA : ∀ q, s.heap.size ≤ q → A q) {v_rows : Int32} {v_cols : Int32} {v_high : Int32} {v_wide : Int32} {v_folds : Int32} {v_wrong : Int32} {v_more : Int32} {v_below : List Int32} {v_worn : List Int32} {v_last : List Int32} {v_bend : List Int32} {v_tall : List Int32} {r : Int32} (N : Nat)  : ∀ (x1 : Int32) (x2 : Int32) (x4 : Int32) (x5 : Int32) (x6 : Int32) (v_rowOf : List Int32) (v_colOf : List Int32) (v_face : List Int32) (H : Heap) (locs : List Loc) (ls : Array Slot), fX5_bendBetween_85 N x1 x2 x4 x5 x6 v_rowOf v_colOf v_face = some r → va_P D mm_cl (wd_X5 cI cL cS cH a v_rows v_cols v_high v_wide v_folds v_wrong v_more v_rowOf v_colOf v_below v_face v_worn v_last v_bend v_tall) H → va_D A (wd_X5 cI cL cS cH a v_rows v_cols v_high v_wide v_folds v_wrong v_more v_rowOf v_colOf v_below v_face v_worn v_last v_bend v_tall) → va_S A s.heap H locs → lv_has ls 7 [(0, .ref (a 0)), (1, .int x1), (2, .int x2), (4, .int x4), (5, .int x5), (6, .int x6)] → W p l e (mm_rr d) s m args below meth c H locs 0 0 (mm_Z below D A (wd_X5 cI cL cS cH a v_rows v_cols v_high v_wide v_folds v_wrong v_more v_rowOf v_colOf v_below v_face v_worn v_last v_bend v_tall) (some (.int r)) args s) (F0 m 85 ls []) := by
  obtain ⟨hx, hb, hml, hown, hts, hr, hlocks, hK, hSt⟩ := id C0
  intro x1 x2 x4 x5 x6 v_rowOf v_colOf v_face H locs ls hf hP hD hS hl
  unfold fX5_bendBetween_85 at hf
  refine lv_aload_n hx hb dX5_bendBetween_85 rfl (lv_at hl 0 rfl) ?_
  refine lv_iload_n hx hb dX5_bendBetween_86 rfl (lv_at hl 2 rfl) ?_
  refine lv_iload hx hb dX5_bendBetween_87 (lv_at hl 3 rfl) ?_
  obtain ⟨r_20, hc_21, hf⟩ := mm_bd1s hf
  refine mm_callVF (q0 := 0) (ci := 5) (rest := []) C0 lk_X5_141 (ctX5_along (a := a) (d := d - 1) (by omega) hc_21) (by omega) rfl hl.1 rfl (mm_cat rfl) dX5_bendBetween_89 hP hD hA hS rfl rfl (fun H locs hP hD hS => ?_)
  refine W.eq (g2 := F0 m 92 ls [.int r_20]) rfl ?_
  refine lv_iload hx hb dX5_bendBetween_92 (lv_at hl 4 rfl) ?_
  refine lv_icmp_ne (tgt := 117) hx hb dX5_bendBetween_94 (by decide) (fun c_22 => ?_) (fun c_22 => ?_)
  · have hf := mm_in hf c_22
    refine lv_iconst (v := 0) hx hb dX5_bendBetween_117 (by decide) ?_
    obtain rfl := mm_inj1 hf
    exact mm_iret C0 hP hD hS dX5_bendBetween_118
  · have hf := mm_ip hf c_22
    refine lv_aload_n hx hb dX5_bendBetween_97 rfl (lv_at hl 0 rfl) ?_
    refine lv_iload_n hx hb dX5_bendBetween_98 rfl (lv_at hl 1 rfl) ?_
    refine lv_iload hx hb dX5_bendBetween_99 (lv_at hl 3 rfl) ?_
    obtain ⟨r_23, hc_24, hf⟩ := mm_bd1s hf
    refine mm_callVF (q0 := 0) (ci := 5) (rest := []) C0 lk_X5_141 (ctX5_along (a := a) (d := d - 1) (by omega) hc_24) (by omega) rfl hl.1 rfl (mm_cat rfl) dX5_bendBetween_101 hP hD hA hS rfl rfl (fun H locs hP hD hS => ?_)
    refine W.eq (g2 := F0 m 104 ls [.int r_23]) rfl ?_
    refine lv_iload hx hb dX5_bendBetween_104 (lv_at hl 5 rfl) ?_
    refine lv_icmp_ne (tgt := 117) hx hb dX5_bendBetween_106 (by decide) (fun c_25 => ?_) (fun c_25 => ?_)
    · have hf := mm_in hf c_25
      refine lv_iconst (v := 0) hx hb dX5_bendBetween_117 (by decide) ?_
      obtain rfl := mm_inj1 hf
      exact mm_iret C0 hP hD hS dX5_bendBetween_118
    · have hf := mm_ip hf c_25
      refine lv_aload_n hx hb dX5_bendBetween_109 rfl (lv_at hl 0 rfl) ?_
      refine lv_iload_n hx hb dX5_bendBetween_110 rfl (lv_at hl 2 rfl) ?_
      refine lv_iload hx hb dX5_bendBetween_111 (lv_at hl 3 rfl) ?_
      obtain ⟨r_26, hc_27, hf⟩ := mm_bd1s hf
      refine mm_callVF (q0 := 0) (ci := 5) (rest := []) C0 lk_X5_144 (ctX5_bendAt (a := a) (d := d - 1) (by omega) hc_27) (by omega) rfl hl.1 rfl (mm_cat rfl) dX5_bendBetween_113 hP hD hA hS rfl rfl (fun H locs hP hD hS => ?_)
      refine W.eq (g2 := F0 m 116 ls [.int r_26]) rfl ?_
      obtain rfl := mm_inj1 hf
      exact mm_iret C0 hP hD hS dX5_bendBetween_116

def fX5_bendBetween_32 (N : Nat)  (x1 : Int32) (x2 : Int32) (x4 : Int32) (x5 : Int32) (s0 : Int32) (v_rowOf : List Int32) (v_colOf : List Int32) (v_face : List Int32) : Option (Int32) :=
    mm_bd1 (fX5_across N x1 x4 v_rowOf v_colOf) (fun (r_7 : Int32) =>
    mm_bd1 (fX5_across N x2 x4 v_rowOf v_colOf) (fun (r_9 : Int32) =>
    if r_7 = r_9 then
    (mm_bd1 (fX5_along N x1 x4 v_rowOf v_colOf) (fun (r_12 : Int32) =>
    if r_12 = x5 then
    (mm_bd1 (fX5_along N x2 x4 v_rowOf v_colOf) (fun (r_15 : Int32) =>
    if r_15 = s0 then
    (mm_bd1 (fX5_bendAt N x1 x4 v_face) (fun (r_18 : Int32) =>
    some (r_18)))
    else (fX5_bendBetween_85 N x1 x2 x4 x5 s0 v_rowOf v_colOf v_face)))
    else (fX5_bendBetween_85 N x1 x2 x4 x5 s0 v_rowOf v_colOf v_face)))
    else (some ((0 : Int32)))))

set_option maxHeartbeats 4000000 in
set_option maxRecDepth 100000 in
theorem tX5_bendBetween_32 {p : Program} {l : Launch} {e : Env} {s : State} {m : MethodId} {args : Array Value} {below : List Frame} {meth : Method} {c : Code} {D : va_G} {cI cL cS cH : ClassId} {A : Nat → Prop} {d : Nat} {a : Nat → Nat} (hd : 3 ≤ d) (C0 : mm_Cx p s m args meth c RX5 cX5_bendBetween 7 (some .int) D (mm_T cI cL cS cH) A) (hA : ∀ q, s.heap.size ≤ q → A q) {v_rows : Int32} {v_cols : Int32} {v_high : Int32} {v_wide : Int32} {v_folds : Int32} {v_wrong : Int32} {v_more : Int32} {v_below : List Int32} {v_worn : List Int32} {v_last : List Int32} {v_bend : List Int32} {v_tall : List Int32} {r : Int32} (N : Nat)  : ∀ (x1 : Int32) (x2 : Int32) (x4 : Int32) (x5 : Int32) (s0 : Int32) (v_rowOf : List Int32) (v_colOf : List Int32) (v_face : List Int32) (H : Heap) (locs : List Loc) (ls : Array Slot), fX5_bendBetween_32 N x1 x2 x4 x5 s0 v_rowOf v_colOf v_face = some r → va_P D mm_cl (wd_X5 cI cL cS cH a v_rows v_cols v_high v_wide v_folds v_wrong v_more v_rowOf v_colOf v_below v_face v_worn v_last v_bend v_tall) H → va_D A (wd_X5 cI cL cS cH a v_rows v_cols v_high v_wide v_folds v_wrong v_more v_rowOf v_colOf v_below v_face v_worn v_last v_bend v_tall) → va_S A s.heap H locs → lv_has ls 7 [(0, .ref (a 0)), (1, .int x1), (2, .int x2), (4, .int x4), (5, .int x5)] → W p l e (mm_rr d) s m args below meth c H locs 0 0 (mm_Z below D A (wd_X5 cI cL cS cH a v_rows v_cols v_high v_wide v_folds v_wrong v_more v_rowOf v_colOf v_below v_face v_worn v_last v_bend v_tall) (some (.int r)) args s) (F0 m 32 ls [.int s0]) := by
  obtain ⟨hx, hb, hml, hown, hts, hr, hlocks, hK, hSt⟩ := id C0
  intro x1 x2 x4 x5 s0 v_rowOf v_colOf v_face H locs ls hf hP hD hS hl
  unfold fX5_bendBetween_32 at hf
  refine lv_istore (lv' := [(6, .int s0), (0, .ref (a 0)), (1, .int x1), (2, .int x2), (4, .int x4), (5, .int x5)]) hx hb dX5_bendBetween_32 hl (by decide) rfl (fun ls hl => ?_)
  refine lv_aload_n hx hb dX5_bendBetween_34 rfl (lv_at hl 1 rfl) ?_
  refine lv_iload_n hx hb dX5_bendBetween_35 rfl (lv_at hl 2 rfl) ?_
  refine lv_iload hx hb dX5_bendBetween_36 (lv_at hl 4 rfl) ?_
  obtain ⟨r_7, hc_8, hf⟩ := mm_bd1s hf
  refine mm_callVF (q0 := 0) (ci := 5) (rest := []) C0 lk_X5_138 (ctX5_across (a := a) (d := d - 1) (by omega) hc_8) (by omega) rfl hl.1 rfl (mm_cat rfl) dX5_bendBetween_38 hP hD hA hS rfl rfl (fun H locs hP hD hS => ?_)
  refine W.eq (g2 := F0 m 41 ls [.int r_7]) rfl ?_
  refine lv_aload_n hx hb dX5_bendBetween_41 rfl (lv_at hl 1 rfl) ?_
  refine lv_iload_n hx hb dX5_bendBetween_42 rfl (lv_at hl 3 rfl) ?_
  refine lv_iload hx hb dX5_bendBetween_43 (lv_at hl 4 rfl) ?_
  obtain ⟨r_9, hc_10, hf⟩ := mm_bd1s hf
  refine mm_callVF (q0 := 0) (ci := 5) (rest := [.int r_7]) C0 lk_X5_138 (ctX5_across (a := a) (d := d - 1) (by omega) hc_10) (by omega) rfl hl.1 rfl (mm_cat rfl) dX5_bendBetween_45 hP hD hA hS rfl rfl (fun H locs hP hD hS => ?_)
  refine W.eq (g2 := F0 m 48 ls [.int r_9, .int r_7]) rfl ?_
  refine lv_icmp_eq (tgt := 53) hx hb dX5_bendBetween_48 (by decide) (fun c_11 => ?_) (fun c_11 => ?_)
  · have hf := mm_ip hf c_11
    refine lv_aload_n hx hb dX5_bendBetween_53 rfl (lv_at hl 1 rfl) ?_
    refine lv_iload_n hx hb dX5_bendBetween_54 rfl (lv_at hl 2 rfl) ?_
    refine lv_iload hx hb dX5_bendBetween_55 (lv_at hl 4 rfl) ?_
    obtain ⟨r_12, hc_13, hf⟩ := mm_bd1s hf
    refine mm_callVF (q0 := 0) (ci := 5) (rest := []) C0 lk_X5_141 (ctX5_along (a := a) (d := d - 1) (by omega) hc_13) (by omega) rfl hl.1 rfl (mm_cat rfl) dX5_bendBetween_57 hP hD hA hS rfl rfl (fun H locs hP hD hS => ?_)
    refine W.eq (g2 := F0 m 60 ls [.int r_12]) rfl ?_
    refine lv_iload hx hb dX5_bendBetween_60 (lv_at hl 5 rfl) ?_
    refine lv_icmp_ne (tgt := 85) hx hb dX5_bendBetween_62 (by decide) (fun c_14 => ?_) (fun c_14 => ?_)
    · have hf := mm_in hf c_14
      exact tX5_bendBetween_85 hd C0 hA N  _ _ _ _ _ _ _ _ H locs ls hf hP hD hS (lv_sub hl [1, 2, 3, 4, 5, 0] rfl)
    · have hf := mm_ip hf c_14
      refine lv_aload_n hx hb dX5_bendBetween_65 rfl (lv_at hl 1 rfl) ?_
      refine lv_iload_n hx hb dX5_bendBetween_66 rfl (lv_at hl 3 rfl) ?_
      refine lv_iload hx hb dX5_bendBetween_67 (lv_at hl 4 rfl) ?_
      obtain ⟨r_15, hc_16, hf⟩ := mm_bd1s hf
      refine mm_callVF (q0 := 0) (ci := 5) (rest := []) C0 lk_X5_141 (ctX5_along (a := a) (d := d - 1) (by omega) hc_16) (by omega) rfl hl.1 rfl (mm_cat rfl) dX5_bendBetween_69 hP hD hA hS rfl rfl (fun H locs hP hD hS => ?_)
      refine W.eq (g2 := F0 m 72 ls [.int r_15]) rfl ?_
      refine lv_iload hx hb dX5_bendBetween_72 (lv_at hl 0 rfl) ?_
      refine lv_icmp_ne (tgt := 85) hx hb dX5_bendBetween_74 (by decide) (fun c_17 => ?_) (fun c_17 => ?_)
      · have hf := mm_in hf c_17
        exact tX5_bendBetween_85 hd C0 hA N  _ _ _ _ _ _ _ _ H locs ls hf hP hD hS (lv_sub hl [1, 2, 3, 4, 5, 0] rfl)
      · have hf := mm_ip hf c_17
        refine lv_aload_n hx hb dX5_bendBetween_77 rfl (lv_at hl 1 rfl) ?_
        refine lv_iload_n hx hb dX5_bendBetween_78 rfl (lv_at hl 2 rfl) ?_
        refine lv_iload hx hb dX5_bendBetween_79 (lv_at hl 4 rfl) ?_
        obtain ⟨r_18, hc_19, hf⟩ := mm_bd1s hf
        refine mm_callVF (q0 := 0) (ci := 5) (rest := []) C0 lk_X5_144 (ctX5_bendAt (a := a) (d := d - 1) (by omega) hc_19) (by omega) rfl hl.1 rfl (mm_cat rfl) dX5_bendBetween_81 hP hD hA hS rfl rfl (fun H locs hP hD hS => ?_)
        refine W.eq (g2 := F0 m 84 ls [.int r_18]) rfl ?_
        obtain rfl := mm_inj1 hf
        exact mm_iret C0 hP hD hS dX5_bendBetween_84
  · have hf := mm_in hf c_11
    refine lv_iconst (v := 0) hx hb dX5_bendBetween_51 (by decide) ?_
    obtain rfl := mm_inj1 hf
    exact mm_iret C0 hP hD hS dX5_bendBetween_52

def fX5_bendBetween_15 (N : Nat)  (x1 : Int32) (x2 : Int32) (x3 : Int32) (x4 : Int32) (s0 : Int32) (v_rowOf : List Int32) (v_colOf : List Int32) (v_face : List Int32) : Option (Int32) :=
    mm_bd1 (fX5_comesFromStart N x4) (fun (r_4 : Bool) =>
    if r_4 = false then
    (fX5_bendBetween_32 N x1 x2 x4 s0 (x3 - (1 : Int32)) v_rowOf v_colOf v_face)
    else (fX5_bendBetween_32 N x1 x2 x4 s0 x3 v_rowOf v_colOf v_face))

set_option maxHeartbeats 4000000 in
set_option maxRecDepth 100000 in
theorem tX5_bendBetween_15 {p : Program} {l : Launch} {e : Env} {s : State} {m : MethodId} {args : Array Value} {below : List Frame} {meth : Method} {c : Code} {D : va_G} {cI cL cS cH : ClassId} {A : Nat → Prop} {d : Nat} {a : Nat → Nat} (hd : 3 ≤ d) (C0 : mm_Cx p s m args meth c RX5 cX5_bendBetween 7 (some .int) D (mm_T cI cL cS cH) A) (hA : ∀ q, s.heap.size ≤ q → A q) {v_rows : Int32} {v_cols : Int32} {v_high : Int32} {v_wide : Int32} {v_folds : Int32} {v_wrong : Int32} {v_more : Int32} {v_below : List Int32} {v_worn : List Int32} {v_last : List Int32} {v_bend : List Int32} {v_tall : List Int32} {r : Int32} (N : Nat)  : ∀ (x1 : Int32) (x2 : Int32) (x3 : Int32) (x4 : Int32) (s0 : Int32) (v_rowOf : List Int32) (v_colOf : List Int32) (v_face : List Int32) (H : Heap) (locs : List Loc) (ls : Array Slot), fX5_bendBetween_15 N x1 x2 x3 x4 s0 v_rowOf v_colOf v_face = some r → va_P D mm_cl (wd_X5 cI cL cS cH a v_rows v_cols v_high v_wide v_folds v_wrong v_more v_rowOf v_colOf v_below v_face v_worn v_last v_bend v_tall) H → va_D A (wd_X5 cI cL cS cH a v_rows v_cols v_high v_wide v_folds v_wrong v_more v_rowOf v_colOf v_below v_face v_worn v_last v_bend v_tall) → va_S A s.heap H locs → lv_has ls 7 [(0, .ref (a 0)), (1, .int x1), (2, .int x2), (3, .int x3), (4, .int x4)] → W p l e (mm_rr d) s m args below meth c H locs 0 0 (mm_Z below D A (wd_X5 cI cL cS cH a v_rows v_cols v_high v_wide v_folds v_wrong v_more v_rowOf v_colOf v_below v_face v_worn v_last v_bend v_tall) (some (.int r)) args s) (F0 m 15 ls [.int s0]) := by
  obtain ⟨hx, hb, hml, hown, hts, hr, hlocks, hK, hSt⟩ := id C0
  intro x1 x2 x3 x4 s0 v_rowOf v_colOf v_face H locs ls hf hP hD hS hl
  unfold fX5_bendBetween_15 at hf
  refine lv_istore (lv' := [(5, .int s0), (0, .ref (a 0)), (1, .int x1), (2, .int x2), (3, .int x3), (4, .int x4)]) hx hb dX5_bendBetween_15 hl (by decide) rfl (fun ls hl => ?_)
  refine lv_iload hx hb dX5_bendBetween_17 (lv_at hl 5 rfl) ?_
  obtain ⟨r_4, hc_5, hf⟩ := mm_bd1s hf
  refine mm_callS0 (rest := []) C0 lk_X5_135 (ctX5_comesFromStart (d := d - 1) (by omega) hc_5) (by omega) rfl hl.1 rfl (mm_cat rfl) dX5_bendBetween_19 hP hD hA hS (fun H locs hP hS => ?_)
  refine W.eq (g2 := F0 m 22 ls [.int (mm_b r_4)]) rfl ?_
  refine lv_if_eq (tgt := 29) hx hb dX5_bendBetween_22 (by decide) (fun c_6 => ?_) (fun c_6 => ?_)
  · have hf := mm_ip hf (mm_b0 c_6)
    refine lv_iload_n hx hb dX5_bendBetween_29 rfl (lv_at hl 4 rfl) ?_
    refine lv_iconst (v := 1) hx hb dX5_bendBetween_30 (by decide) ?_
    refine lv_isub hx hb dX5_bendBetween_31 ?_
    exact tX5_bendBetween_32 hd C0 hA N  _ _ _ _ _ _ _ _ H locs ls hf hP hD hS (lv_sub hl [1, 2, 3, 5, 0] rfl)
  · have hf := mm_in hf (mm_b1 c_6)
    refine lv_iload_n hx hb dX5_bendBetween_25 rfl (lv_at hl 4 rfl) ?_
    refine lv_goto (tgt := 32) hx hb dX5_bendBetween_26 (by decide) ?_
    exact tX5_bendBetween_32 hd C0 hA N  _ _ _ _ _ _ _ _ H locs ls hf hP hD hS (lv_sub hl [1, 2, 3, 5, 0] rfl)

def fX5_bendBetween (N : Nat) (x1 : Int32) (x2 : Int32) (x3 : Int32) (x4 : Int32) (v_rowOf : List Int32) (v_colOf : List Int32) (v_face : List Int32) : Option (Int32) :=
    mm_bd1 (fX5_comesFromStart N x4) (fun (r_1 : Bool) =>
    if r_1 = false then
    (fX5_bendBetween_15 N x1 x2 x3 x4 x3 v_rowOf v_colOf v_face)
    else (fX5_bendBetween_15 N x1 x2 x3 x4 (x3 - (1 : Int32)) v_rowOf v_colOf v_face))

set_option maxHeartbeats 4000000 in
set_option maxRecDepth 100000 in
theorem ctX5_bendBetween {l : Launch} {D : va_G} {cI cL cS cH : ClassId} {a : Nat → Nat} {x1 : Int32} {x2 : Int32} {x3 : Int32} {x4 : Int32} {v_rows : Int32} {v_cols : Int32} {v_high : Int32} {v_wide : Int32} {v_folds : Int32} {v_wrong : Int32} {v_more : Int32} {v_rowOf : List Int32} {v_colOf : List Int32} {v_below : List Int32} {v_face : List Int32} {v_worn : List Int32} {v_last : List Int32} {v_bend : List Int32} {v_tall : List Int32} {r : Int32} {N d : Nat} (hd : 3 ≤ d) (hf : fX5_bendBetween N x1 x2 x3 x4 v_rowOf v_colOf v_face = some r) : mm_Ct l yX5_bendBetween cX5_bendBetween 7 (some .int) d D (mm_T cI cL cS cH) [.ref (a 0), .int x1, .int x2, .int x3, .int x4] (wd_X5 cI cL cS cH a v_rows v_cols v_high v_wide v_folds v_wrong v_more v_rowOf v_colOf v_below v_face v_worn v_last v_bend v_tall) (wd_X5 cI cL cS cH a v_rows v_cols v_high v_wide v_folds v_wrong v_more v_rowOf v_colOf v_below v_face v_worn v_last v_bend v_tall) (some (.int r)) := by
  refine mm_of (by decide) (Nat.le_of_ble_eq_true rfl) ?_
  intro p e s m args below meth c A H locs ls C0 hP hD hA hS hl
  have C0 : mm_Cx p s m args meth c RX5 cX5_bendBetween 7 (some .int) D (mm_T cI cL cS cH) A := C0
  obtain ⟨hx, hb, hml, hown, hts, hr, hlocks, hK, hSt⟩ := id C0
  have hl : lv_has ls 7 [(0, .ref (a 0)), (1, .int x1), (2, .int x2), (3, .int x3), (4, .int x4)] := hl
  unfold fX5_bendBetween at hf
  refine lv_iload hx hb dX5_bendBetween_0 (lv_at hl 4 rfl) ?_
  obtain ⟨r_1, hc_2, hf⟩ := mm_bd1s hf
  refine mm_callS0 (rest := []) C0 lk_X5_135 (ctX5_comesFromStart (d := d - 1) (by omega) hc_2) (by omega) rfl hl.1 rfl (mm_cat rfl) dX5_bendBetween_2 hP hD hA hS (fun H locs hP hS => ?_)
  refine W.eq (g2 := F0 m 5 ls [.int (mm_b r_1)]) rfl ?_
  refine lv_if_eq (tgt := 14) hx hb dX5_bendBetween_5 (by decide) (fun c_3 => ?_) (fun c_3 => ?_)
  · have hf := mm_ip hf (mm_b0 c_3)
    refine lv_iload_n hx hb dX5_bendBetween_14 rfl (lv_at hl 3 rfl) ?_
    exact tX5_bendBetween_15 hd C0 hA N  _ _ _ _ _ _ _ _ H locs ls hf hP hD hS (lv_sub hl [0, 1, 2, 3, 4] rfl)
  · have hf := mm_in hf (mm_b1 c_3)
    refine lv_iload_n hx hb dX5_bendBetween_8 rfl (lv_at hl 3 rfl) ?_
    refine lv_iconst (v := 1) hx hb dX5_bendBetween_9 (by decide) ?_
    refine lv_isub hx hb dX5_bendBetween_10 ?_
    refine lv_goto (tgt := 15) hx hb dX5_bendBetween_11 (by decide) ?_
    exact tX5_bendBetween_15 hd C0 hA N  _ _ _ _ _ _ _ _ H locs ls hf hP hD hS (lv_sub hl [0, 1, 2, 3, 4] rfl)

theorem nb_dX5_markBends_0 : bls_w cX5_markBends [(0, [3]), (1, [54, 4]), (3, [3]), (4, [54, 5]), (6, [21, 5]), (8, [5]), (9, [42]), (10, [182, 0, 84]), (13, [104]), (14, [162, 0, 75]), (17, [42]), (18, [21, 5])] := bls_of (by decide +kernel)
theorem dX5_markBends_0 : decode cX5_markBends 0 = .ok (.iconst 0, 1) := op_3 nb_dX5_markBends_0.1
set_option maxRecDepth 100000 in
theorem dX5_markBends_1 : decode cX5_markBends 1 = .ok (.istore 4, 2) := (op_54 nb_dX5_markBends_0.2.1).trans rfl
theorem dX5_markBends_3 : decode cX5_markBends 3 = .ok (.iconst 0, 1) := op_3 nb_dX5_markBends_0.2.2.1
set_option maxRecDepth 100000 in
theorem dX5_markBends_4 : decode cX5_markBends 4 = .ok (.istore 5, 2) := (op_54 nb_dX5_markBends_0.2.2.2.1).trans rfl
set_option maxRecDepth 100000 in
theorem dX5_markBends_6 : decode cX5_markBends 6 = .ok (.iload 5, 2) := (op_21 nb_dX5_markBends_0.2.2.2.2.1).trans rfl
theorem dX5_markBends_8 : decode cX5_markBends 8 = .ok (.iconst 2, 1) := op_5 nb_dX5_markBends_0.2.2.2.2.2.1
theorem dX5_markBends_9 : decode cX5_markBends 9 = .ok (.aload_n 0, 1) := op_42 nb_dX5_markBends_0.2.2.2.2.2.2.1
set_option maxRecDepth 100000 in
theorem dX5_markBends_10 : decode cX5_markBends 10 = .ok (.invokevirtual 84, 3) := (op_182 nb_dX5_markBends_0.2.2.2.2.2.2.2.1).trans rfl
theorem dX5_markBends_13 : decode cX5_markBends 13 = .ok (.imul, 1) := op_104 nb_dX5_markBends_0.2.2.2.2.2.2.2.2.1
set_option maxRecDepth 100000 in
theorem dX5_markBends_14 : decode cX5_markBends 14 = .ok (.if_icmp .ge 75, 3) := (op_162 nb_dX5_markBends_0.2.2.2.2.2.2.2.2.2.1).trans rfl
theorem dX5_markBends_17 : decode cX5_markBends 17 = .ok (.aload_n 0, 1) := op_42 nb_dX5_markBends_0.2.2.2.2.2.2.2.2.2.2.1
set_option maxRecDepth 100000 in
theorem dX5_markBends_18 : decode cX5_markBends 18 = .ok (.iload 5, 2) := (op_21 nb_dX5_markBends_0.2.2.2.2.2.2.2.2.2.2.2.1).trans rfl
theorem nb_dX5_markBends_20 : bls_w cX5_markBends [(20, [5]), (21, [108]), (22, [21, 5]), (24, [5]), (25, [112]), (26, [182, 0, 118]), (29, [54, 6]), (31, [42]), (32, [180, 0, 30]), (35, [21, 5]), (37, [21, 6]), (39, [155, 0, 14])] := bls_of (by decide +kernel)
theorem dX5_markBends_20 : decode cX5_markBends 20 = .ok (.iconst 2, 1) := op_5 nb_dX5_markBends_20.1
theorem dX5_markBends_21 : decode cX5_markBends 21 = .ok (.idiv, 1) := op_108 nb_dX5_markBends_20.2.1
set_option maxRecDepth 100000 in
theorem dX5_markBends_22 : decode cX5_markBends 22 = .ok (.iload 5, 2) := (op_21 nb_dX5_markBends_20.2.2.1).trans rfl
theorem dX5_markBends_24 : decode cX5_markBends 24 = .ok (.iconst 2, 1) := op_5 nb_dX5_markBends_20.2.2.2.1
theorem dX5_markBends_25 : decode cX5_markBends 25 = .ok (.irem, 1) := op_112 nb_dX5_markBends_20.2.2.2.2.1
set_option maxRecDepth 100000 in
theorem dX5_markBends_26 : decode cX5_markBends 26 = .ok (.invokevirtual 118, 3) := (op_182 nb_dX5_markBends_20.2.2.2.2.2.1).trans rfl
set_option maxRecDepth 100000 in
theorem dX5_markBends_29 : decode cX5_markBends 29 = .ok (.istore 6, 2) := (op_54 nb_dX5_markBends_20.2.2.2.2.2.2.1).trans rfl
theorem dX5_markBends_31 : decode cX5_markBends 31 = .ok (.aload_n 0, 1) := op_42 nb_dX5_markBends_20.2.2.2.2.2.2.2.1
set_option maxRecDepth 100000 in
theorem dX5_markBends_32 : decode cX5_markBends 32 = .ok (.getfield 30, 3) := (op_180 nb_dX5_markBends_20.2.2.2.2.2.2.2.2.1).trans rfl
set_option maxRecDepth 100000 in
theorem dX5_markBends_35 : decode cX5_markBends 35 = .ok (.iload 5, 2) := (op_21 nb_dX5_markBends_20.2.2.2.2.2.2.2.2.2.1).trans rfl
set_option maxRecDepth 100000 in
theorem dX5_markBends_37 : decode cX5_markBends 37 = .ok (.iload 6, 2) := (op_21 nb_dX5_markBends_20.2.2.2.2.2.2.2.2.2.2.1).trans rfl
set_option maxRecDepth 100000 in
theorem dX5_markBends_39 : decode cX5_markBends 39 = .ok (.ifCond .lt 14, 3) := (op_155 nb_dX5_markBends_20.2.2.2.2.2.2.2.2.2.2.2.1).trans rfl
theorem nb_dX5_markBends_42 : bls_w cX5_markBends [(42, [42]), (43, [180, 0, 24]), (46, [21, 5]), (48, [46]), (49, [29]), (50, [161, 0, 7]), (53, [3]), (54, [167, 0, 15]), (57, [42]), (58, [21, 5]), (60, [5]), (61, [108])] := bls_of (by decide +kernel)
theorem dX5_markBends_42 : decode cX5_markBends 42 = .ok (.aload_n 0, 1) := op_42 nb_dX5_markBends_42.1
set_option maxRecDepth 100000 in
theorem dX5_markBends_43 : decode cX5_markBends 43 = .ok (.getfield 24, 3) := (op_180 nb_dX5_markBends_42.2.1).trans rfl
set_option maxRecDepth 100000 in
theorem dX5_markBends_46 : decode cX5_markBends 46 = .ok (.iload 5, 2) := (op_21 nb_dX5_markBends_42.2.2.1).trans rfl
theorem dX5_markBends_48 : decode cX5_markBends 48 = .ok (.iaload, 1) := op_46 nb_dX5_markBends_42.2.2.2.1
theorem dX5_markBends_49 : decode cX5_markBends 49 = .ok (.iload_n 3, 1) := op_29 nb_dX5_markBends_42.2.2.2.2.1
set_option maxRecDepth 100000 in
theorem dX5_markBends_50 : decode cX5_markBends 50 = .ok (.if_icmp .lt 7, 3) := (op_161 nb_dX5_markBends_42.2.2.2.2.2.1).trans rfl
theorem dX5_markBends_53 : decode cX5_markBends 53 = .ok (.iconst 0, 1) := op_3 nb_dX5_markBends_42.2.2.2.2.2.2.1
set_option maxRecDepth 100000 in
theorem dX5_markBends_54 : decode cX5_markBends 54 = .ok (.goto 15, 3) := (op_167 nb_dX5_markBends_42.2.2.2.2.2.2.2.1).trans rfl
theorem dX5_markBends_57 : decode cX5_markBends 57 = .ok (.aload_n 0, 1) := op_42 nb_dX5_markBends_42.2.2.2.2.2.2.2.2.1
set_option maxRecDepth 100000 in
theorem dX5_markBends_58 : decode cX5_markBends 58 = .ok (.iload 5, 2) := (op_21 nb_dX5_markBends_42.2.2.2.2.2.2.2.2.2.1).trans rfl
theorem dX5_markBends_60 : decode cX5_markBends 60 = .ok (.iconst 2, 1) := op_5 nb_dX5_markBends_42.2.2.2.2.2.2.2.2.2.2.1
theorem dX5_markBends_61 : decode cX5_markBends 61 = .ok (.idiv, 1) := op_108 nb_dX5_markBends_42.2.2.2.2.2.2.2.2.2.2.2.1
theorem nb_dX5_markBends_62 : bls_w cX5_markBends [(62, [21, 6]), (64, [27]), (65, [28]), (66, [182, 0, 131]), (69, [79]), (70, [42]), (71, [180, 0, 30]), (74, [21, 5]), (76, [46]), (77, [153, 0, 6]), (80, [132, 4, 1]), (83, [132, 5, 1])] := bls_of (by decide +kernel)
set_option maxRecDepth 100000 in
theorem dX5_markBends_62 : decode cX5_markBends 62 = .ok (.iload 6, 2) := (op_21 nb_dX5_markBends_62.1).trans rfl
theorem dX5_markBends_64 : decode cX5_markBends 64 = .ok (.iload_n 1, 1) := op_27 nb_dX5_markBends_62.2.1
theorem dX5_markBends_65 : decode cX5_markBends 65 = .ok (.iload_n 2, 1) := op_28 nb_dX5_markBends_62.2.2.1
set_option maxRecDepth 100000 in
theorem dX5_markBends_66 : decode cX5_markBends 66 = .ok (.invokevirtual 131, 3) := (op_182 nb_dX5_markBends_62.2.2.2.1).trans rfl
theorem dX5_markBends_69 : decode cX5_markBends 69 = .ok (.iastore, 1) := op_79 nb_dX5_markBends_62.2.2.2.2.1
theorem dX5_markBends_70 : decode cX5_markBends 70 = .ok (.aload_n 0, 1) := op_42 nb_dX5_markBends_62.2.2.2.2.2.1
set_option maxRecDepth 100000 in
theorem dX5_markBends_71 : decode cX5_markBends 71 = .ok (.getfield 30, 3) := (op_180 nb_dX5_markBends_62.2.2.2.2.2.2.1).trans rfl
set_option maxRecDepth 100000 in
theorem dX5_markBends_74 : decode cX5_markBends 74 = .ok (.iload 5, 2) := (op_21 nb_dX5_markBends_62.2.2.2.2.2.2.2.1).trans rfl
theorem dX5_markBends_76 : decode cX5_markBends 76 = .ok (.iaload, 1) := op_46 nb_dX5_markBends_62.2.2.2.2.2.2.2.2.1
set_option maxRecDepth 100000 in
theorem dX5_markBends_77 : decode cX5_markBends 77 = .ok (.ifCond .eq 6, 3) := (op_153 nb_dX5_markBends_62.2.2.2.2.2.2.2.2.2.1).trans rfl
set_option maxRecDepth 100000 in
theorem dX5_markBends_80 : decode cX5_markBends 80 = .ok (.iinc 4 1, 3) := (op_132 nb_dX5_markBends_62.2.2.2.2.2.2.2.2.2.2.1).trans rfl
set_option maxRecDepth 100000 in
theorem dX5_markBends_83 : decode cX5_markBends 83 = .ok (.iinc 5 1, 3) := (op_132 nb_dX5_markBends_62.2.2.2.2.2.2.2.2.2.2.2.1).trans rfl
theorem nb_dX5_markBends_86 : bls_w cX5_markBends [(86, [167, 255, 176]), (89, [21, 4]), (91, [172])] := bls_of (by decide +kernel)
set_option maxRecDepth 100000 in
theorem dX5_markBends_86 : decode cX5_markBends 86 = .ok (.goto (-80), 3) := (op_167 nb_dX5_markBends_86.1).trans rfl
set_option maxRecDepth 100000 in
theorem dX5_markBends_89 : decode cX5_markBends 89 = .ok (.iload 4, 2) := (op_21 nb_dX5_markBends_86.2.1).trans rfl
theorem dX5_markBends_91 : decode cX5_markBends 91 = .ok (.ireturn, 1) := op_172 nb_dX5_markBends_86.2.2.1
def fX5_markBends_83 (N : Nat) (k_6 : Int32 → Int32 → Int32 → Int32 → Int32 → Int32 → Int32 → List Int32 → List Int32 → List Int32 → List Int32 → List Int32 → Option (Int32 × List Int32)) (x1 : Int32) (x2 : Int32) (x3 : Int32) (x4 : Int32) (x5 : Int32) (v_rows : Int32) (v_cols : Int32) (v_rowOf : List Int32) (v_colOf : List Int32) (v_face : List Int32) (v_worn : List Int32) (v_bend : List Int32) : Option (Int32 × List Int32) :=
    mm_nm (x5 + (1 : Int32)) (fun (y_19 : Int32) =>
    k_6 x1 x2 x3 x4 y_19 v_rows v_cols v_rowOf v_colOf v_face v_worn v_bend)

set_option maxHeartbeats 4000000 in
set_option maxRecDepth 100000 in
theorem tX5_markBends_83 {p : Program} {l : Launch} {e : Env} {s : State} {m : MethodId} {args : Array Value} {below : List Frame} {meth : Method} {c : Code} {D : va_G} {cI cL cS cH : ClassId} {A : Nat → Prop} {d : Nat} {a : Nat → Nat} (hd : 4 ≤ d) (C0 : mm_Cx p s m args meth c RX5 cX5_markBends 7 (some .int) D (mm_T cI cL cS cH) A) (hA : ∀ q, s.heap.size ≤ q → A q) {v_high : Int32} {v_wide : Int32} {v_folds : Int32} {v_wrong : Int32} {v_more : Int32} {v_below : List Int32} {v_last : List Int32} {v_tall : List Int32} {r : Int32} {w_bend : List Int32} (N : Nat) {k_6 : Int32 → Int32 → Int32 → Int32 → Int32 → Int32 → Int32 → List Int32 → List Int32 → List Int32 → List Int32 → List Int32 → Option (Int32 × List Int32)} (hk_6 : ∀ (x1 : Int32) (x2 : Int32) (x3 : Int32) (x4 : Int32) (x5 : Int32) (v_rows : Int32) (v_cols : Int32) (v_rowOf : List Int32) (v_colOf : List Int32) (v_face : List Int32) (v_worn : List Int32) (v_bend : List Int32) (H : Heap) (locs : List Loc) (ls : Array Slot), k_6 x1 x2 x3 x4 x5 v_rows v_cols v_rowOf v_colOf v_face v_worn v_bend = some (r, w_bend) → va_P D mm_cl (wd_X5 cI cL cS cH a v_rows v_cols v_high v_wide v_folds v_wrong v_more v_rowOf v_colOf v_below v_face v_worn v_last v_bend v_tall) H → va_D A (wd_X5 cI cL cS cH a v_rows v_cols v_high v_wide v_folds v_wrong v_more v_rowOf v_colOf v_below v_face v_worn v_last v_bend v_tall) → va_S A s.heap H locs → lv_has ls 7 [(0, .ref (a 0)), (1, .int x1), (2, .int x2), (3, .int x3), (4, .int x4), (5, .int x5)] → W p l e (mm_rr d) s m args below meth c H locs 0 0 (mm_Z below D A (wd_X5 cI cL cS cH a v_rows v_cols v_high v_wide v_folds v_wrong v_more v_rowOf v_colOf v_below v_face v_worn v_last w_bend v_tall) (some (.int r)) args s) (F0 m 6 ls [])) : ∀ (x1 : Int32) (x2 : Int32) (x3 : Int32) (x4 : Int32) (x5 : Int32) (v_rows : Int32) (v_cols : Int32) (v_rowOf : List Int32) (v_colOf : List Int32) (v_face : List Int32) (v_worn : List Int32) (v_bend : List Int32) (H : Heap) (locs : List Loc) (ls : Array Slot), fX5_markBends_83 N k_6 x1 x2 x3 x4 x5 v_rows v_cols v_rowOf v_colOf v_face v_worn v_bend = some (r, w_bend) → va_P D mm_cl (wd_X5 cI cL cS cH a v_rows v_cols v_high v_wide v_folds v_wrong v_more v_rowOf v_colOf v_below v_face v_worn v_last v_bend v_tall) H → va_D A (wd_X5 cI cL cS cH a v_rows v_cols v_high v_wide v_folds v_wrong v_more v_rowOf v_colOf v_below v_face v_worn v_last v_bend v_tall) → va_S A s.heap H locs → lv_has ls 7 [(0, .ref (a 0)), (1, .int x1), (2, .int x2), (3, .int x3), (4, .int x4), (5, .int x5)] → W p l e (mm_rr d) s m args below meth c H locs 0 0 (mm_Z below D A (wd_X5 cI cL cS cH a v_rows v_cols v_high v_wide v_folds v_wrong v_more v_rowOf v_colOf v_below v_face v_worn v_last w_bend v_tall) (some (.int r)) args s) (F0 m 83 ls []) := by
  obtain ⟨hx, hb, hml, hown, hts, hr, hlocks, hK, hSt⟩ := id C0
  intro x1 x2 x3 x4 x5 v_rows v_cols v_rowOf v_colOf v_face v_worn v_bend H locs ls hf hP hD hS hl
  unfold fX5_markBends_83 at hf
  obtain ⟨y_19, ey_19⟩ : ∃ z : Int32, z = x5 + (1 : Int32) := ⟨_, rfl⟩
  have hf := mm_nms hf ey_19
  refine lv_iinc (v := y_19) (lv' := [(5, .int y_19), (0, .ref (a 0)), (1, .int x1), (2, .int x2), (3, .int x3), (4, .int x4)]) hx hb dX5_markBends_83 hl (k := 5) rfl (by rw [ey_19]; rfl) (by decide) rfl (fun ls hl => ?_)
  refine lv_goto (tgt := 6) hx hb dX5_markBends_86 (by decide) ?_
  exact hk_6 _ _ _ _ _ _ _ _ _ _ _ _ H locs ls hf hP hD hS (lv_sub hl [1, 2, 3, 4, 5, 0] rfl)

def fX5_markBends_69 (N : Nat) (k_6 : Int32 → Int32 → Int32 → Int32 → Int32 → Int32 → Int32 → List Int32 → List Int32 → List Int32 → List Int32 → List Int32 → Option (Int32 × List Int32)) (x1 : Int32) (x2 : Int32) (x3 : Int32) (x4 : Int32) (x5 : Int32) (s0 : Int32) (s1 : Int32) (v_rows : Int32) (v_cols : Int32) (v_rowOf : List Int32) (v_colOf : List Int32) (v_face : List Int32) (v_worn : List Int32) (v_bend : List Int32) : Option (Int32 × List Int32) :=
    mm_ck (mm_inb s1 v_bend.length) (mm_nm (mm_is v_bend s1 s0) (fun (l_15 : List Int32) =>
    mm_ck (mm_inb x5 l_15.length) (if (mm_ig l_15 x5) = 0 then
    (fX5_markBends_83 N k_6 x1 x2 x3 x4 x5 v_rows v_cols v_rowOf v_colOf v_face v_worn l_15)
    else (mm_nm (x4 + (1 : Int32)) (fun (y_18 : Int32) =>
    fX5_markBends_83 N k_6 x1 x2 x3 y_18 x5 v_rows v_cols v_rowOf v_colOf v_face v_worn l_15)))))

set_option maxHeartbeats 4000000 in
set_option maxRecDepth 100000 in
theorem tX5_markBends_69 {p : Program} {l : Launch} {e : Env} {s : State} {m : MethodId} {args : Array Value} {below : List Frame} {meth : Method} {c : Code} {D : va_G} {cI cL cS cH : ClassId} {A : Nat → Prop} {d : Nat} {a : Nat → Nat} (hd : 4 ≤ d) (C0 : mm_Cx p s m args meth c RX5 cX5_markBends 7 (some .int) D (mm_T cI cL cS cH) A) (hA : ∀ q, s.heap.size ≤ q → A q) {v_high : Int32} {v_wide : Int32} {v_folds : Int32} {v_wrong : Int32} {v_more : Int32} {v_below : List Int32} {v_last : List Int32} {v_tall : List Int32} {r : Int32} {w_bend : List Int32} (N : Nat) {k_6 : Int32 → Int32 → Int32 → Int32 → Int32 → Int32 → Int32 → List Int32 → List Int32 → List Int32 → List Int32 → List Int32 → Option (Int32 × List Int32)} (hk_6 : ∀ (x1 : Int32) (x2 : Int32) (x3 : Int32) (x4 : Int32) (x5 : Int32) (v_rows : Int32) (v_cols : Int32) (v_rowOf : List Int32) (v_colOf : List Int32) (v_face : List Int32) (v_worn : List Int32) (v_bend : List Int32) (H : Heap) (locs : List Loc) (ls : Array Slot), k_6 x1 x2 x3 x4 x5 v_rows v_cols v_rowOf v_colOf v_face v_worn v_bend = some (r, w_bend) → va_P D mm_cl (wd_X5 cI cL cS cH a v_rows v_cols v_high v_wide v_folds v_wrong v_more v_rowOf v_colOf v_below v_face v_worn v_last v_bend v_tall) H → va_D A (wd_X5 cI cL cS cH a v_rows v_cols v_high v_wide v_folds v_wrong v_more v_rowOf v_colOf v_below v_face v_worn v_last v_bend v_tall) → va_S A s.heap H locs → lv_has ls 7 [(0, .ref (a 0)), (1, .int x1), (2, .int x2), (3, .int x3), (4, .int x4), (5, .int x5)] → W p l e (mm_rr d) s m args below meth c H locs 0 0 (mm_Z below D A (wd_X5 cI cL cS cH a v_rows v_cols v_high v_wide v_folds v_wrong v_more v_rowOf v_colOf v_below v_face v_worn v_last w_bend v_tall) (some (.int r)) args s) (F0 m 6 ls [])) : ∀ (x1 : Int32) (x2 : Int32) (x3 : Int32) (x4 : Int32) (x5 : Int32) (s0 : Int32) (s1 : Int32) (v_rows : Int32) (v_cols : Int32) (v_rowOf : List Int32) (v_colOf : List Int32) (v_face : List Int32) (v_worn : List Int32) (v_bend : List Int32) (H : Heap) (locs : List Loc) (ls : Array Slot), fX5_markBends_69 N k_6 x1 x2 x3 x4 x5 s0 s1 v_rows v_cols v_rowOf v_colOf v_face v_worn v_bend = some (r, w_bend) → va_P D mm_cl (wd_X5 cI cL cS cH a v_rows v_cols v_high v_wide v_folds v_wrong v_more v_rowOf v_colOf v_below v_face v_worn v_last v_bend v_tall) H → va_D A (wd_X5 cI cL cS cH a v_rows v_cols v_high v_wide v_folds v_wrong v_more v_rowOf v_colOf v_below v_face v_worn v_last v_bend v_tall) → va_S A s.heap H locs → lv_has ls 7 [(0, .ref (a 0)), (1, .int x1), (2, .int x2), (3, .int x3), (4, .int x4), (5, .int x5)] → W p l e (mm_rr d) s m args below meth c H locs 0 0 (mm_Z below D A (wd_X5 cI cL cS cH a v_rows v_cols v_high v_wide v_folds v_wrong v_more v_rowOf v_colOf v_below v_face v_worn v_last w_bend v_tall) (some (.int r)) args s) (F0 m 69 ls [.int s0, .int s1, .ref (a 7)]) := by
  obtain ⟨hx, hb, hml, hown, hts, hr, hlocks, hK, hSt⟩ := id C0
  intro x1 x2 x3 x4 x5 s0 s1 v_rows v_cols v_rowOf v_colOf v_face v_worn v_bend H locs ls hf hP hD hS hl
  unfold fX5_markBends_69 at hf
  obtain ⟨h_14, hf⟩ := mm_cks hf
  refine mm_iast C0 hP hD hS 7 rfl h_14 dX5_markBends_69 (w2 := (wd_X5 cI cL cS cH a v_rows v_cols v_high v_wide v_folds v_wrong v_more v_rowOf v_colOf v_below v_face v_worn v_last (mm_is v_bend s1 s0) v_tall)) rfl (fun H locs hP hD hS => ?_)
  generalize el_15 : (mm_is v_bend s1 s0) = l_15 at hP hD
  have hf := mm_nms hf el_15.symm
  refine lv_aload_n hx hb dX5_markBends_70 rfl (lv_at hl 0 rfl) ?_
  refine mm_get C0 hP iw_X5 0 rfl rfl 13 (by decide) fl_X5_30 rfl dX5_markBends_71 ?_
  refine lv_iload hx hb dX5_markBends_74 (lv_at hl 5 rfl) ?_
  obtain ⟨h_16, hf⟩ := mm_cks hf
  refine mm_iald C0 hP 7 rfl h_16 dX5_markBends_76 ?_
  refine lv_if_eq (tgt := 83) hx hb dX5_markBends_77 (by decide) (fun c_17 => ?_) (fun c_17 => ?_)
  · have hf := mm_ip hf c_17
    exact tX5_markBends_83 hd C0 hA N hk_6 _ _ _ _ _ _ _ _ _ _ _ _ H locs ls hf hP hD hS (lv_sub hl [0, 1, 2, 3, 4, 5] rfl)
  · have hf := mm_in hf c_17
    obtain ⟨y_18, ey_18⟩ : ∃ z : Int32, z = x4 + (1 : Int32) := ⟨_, rfl⟩
    have hf := mm_nms hf ey_18
    refine lv_iinc (v := y_18) (lv' := [(4, .int y_18), (0, .ref (a 0)), (1, .int x1), (2, .int x2), (3, .int x3), (5, .int x5)]) hx hb dX5_markBends_80 hl (k := 4) rfl (by rw [ey_18]; rfl) (by decide) rfl (fun ls hl => ?_)
    exact tX5_markBends_83 hd C0 hA N hk_6 _ _ _ _ _ _ _ _ _ _ _ _ H locs ls hf hP hD hS (lv_sub hl [1, 2, 3, 4, 0, 5] rfl)

def fX5_markBends_53 (N : Nat) (k_6 : Int32 → Int32 → Int32 → Int32 → Int32 → Int32 → Int32 → List Int32 → List Int32 → List Int32 → List Int32 → List Int32 → Option (Int32 × List Int32)) (x1 : Int32) (x2 : Int32) (x3 : Int32) (x4 : Int32) (x5 : Int32) (s0 : Int32) (v_rows : Int32) (v_cols : Int32) (v_rowOf : List Int32) (v_colOf : List Int32) (v_face : List Int32) (v_worn : List Int32) (v_bend : List Int32) : Option (Int32 × List Int32) :=
    fX5_markBends_69 N k_6 x1 x2 x3 x4 x5 (0 : Int32) s0 v_rows v_cols v_rowOf v_colOf v_face v_worn v_bend

set_option maxHeartbeats 4000000 in
set_option maxRecDepth 100000 in
theorem tX5_markBends_53 {p : Program} {l : Launch} {e : Env} {s : State} {m : MethodId} {args : Array Value} {below : List Frame} {meth : Method} {c : Code} {D : va_G} {cI cL cS cH : ClassId} {A : Nat → Prop} {d : Nat} {a : Nat → Nat} (hd : 4 ≤ d) (C0 : mm_Cx p s m args meth c RX5 cX5_markBends 7 (some .int) D (mm_T cI cL cS cH) A) (hA : ∀ q, s.heap.size ≤ q → A q) {v_high : Int32} {v_wide : Int32} {v_folds : Int32} {v_wrong : Int32} {v_more : Int32} {v_below : List Int32} {v_last : List Int32} {v_tall : List Int32} {r : Int32} {w_bend : List Int32} (N : Nat) {k_6 : Int32 → Int32 → Int32 → Int32 → Int32 → Int32 → Int32 → List Int32 → List Int32 → List Int32 → List Int32 → List Int32 → Option (Int32 × List Int32)} (hk_6 : ∀ (x1 : Int32) (x2 : Int32) (x3 : Int32) (x4 : Int32) (x5 : Int32) (v_rows : Int32) (v_cols : Int32) (v_rowOf : List Int32) (v_colOf : List Int32) (v_face : List Int32) (v_worn : List Int32) (v_bend : List Int32) (H : Heap) (locs : List Loc) (ls : Array Slot), k_6 x1 x2 x3 x4 x5 v_rows v_cols v_rowOf v_colOf v_face v_worn v_bend = some (r, w_bend) → va_P D mm_cl (wd_X5 cI cL cS cH a v_rows v_cols v_high v_wide v_folds v_wrong v_more v_rowOf v_colOf v_below v_face v_worn v_last v_bend v_tall) H → va_D A (wd_X5 cI cL cS cH a v_rows v_cols v_high v_wide v_folds v_wrong v_more v_rowOf v_colOf v_below v_face v_worn v_last v_bend v_tall) → va_S A s.heap H locs → lv_has ls 7 [(0, .ref (a 0)), (1, .int x1), (2, .int x2), (3, .int x3), (4, .int x4), (5, .int x5)] → W p l e (mm_rr d) s m args below meth c H locs 0 0 (mm_Z below D A (wd_X5 cI cL cS cH a v_rows v_cols v_high v_wide v_folds v_wrong v_more v_rowOf v_colOf v_below v_face v_worn v_last w_bend v_tall) (some (.int r)) args s) (F0 m 6 ls [])) : ∀ (x1 : Int32) (x2 : Int32) (x3 : Int32) (x4 : Int32) (x5 : Int32) (s0 : Int32) (v_rows : Int32) (v_cols : Int32) (v_rowOf : List Int32) (v_colOf : List Int32) (v_face : List Int32) (v_worn : List Int32) (v_bend : List Int32) (H : Heap) (locs : List Loc) (ls : Array Slot), fX5_markBends_53 N k_6 x1 x2 x3 x4 x5 s0 v_rows v_cols v_rowOf v_colOf v_face v_worn v_bend = some (r, w_bend) → va_P D mm_cl (wd_X5 cI cL cS cH a v_rows v_cols v_high v_wide v_folds v_wrong v_more v_rowOf v_colOf v_below v_face v_worn v_last v_bend v_tall) H → va_D A (wd_X5 cI cL cS cH a v_rows v_cols v_high v_wide v_folds v_wrong v_more v_rowOf v_colOf v_below v_face v_worn v_last v_bend v_tall) → va_S A s.heap H locs → lv_has ls 7 [(0, .ref (a 0)), (1, .int x1), (2, .int x2), (3, .int x3), (4, .int x4), (5, .int x5)] → W p l e (mm_rr d) s m args below meth c H locs 0 0 (mm_Z below D A (wd_X5 cI cL cS cH a v_rows v_cols v_high v_wide v_folds v_wrong v_more v_rowOf v_colOf v_below v_face v_worn v_last w_bend v_tall) (some (.int r)) args s) (F0 m 53 ls [.int s0, .ref (a 7)]) := by
  obtain ⟨hx, hb, hml, hown, hts, hr, hlocks, hK, hSt⟩ := id C0
  intro x1 x2 x3 x4 x5 s0 v_rows v_cols v_rowOf v_colOf v_face v_worn v_bend H locs ls hf hP hD hS hl
  unfold fX5_markBends_53 at hf
  refine lv_iconst (v := 0) hx hb dX5_markBends_53 (by decide) ?_
  refine lv_goto (tgt := 69) hx hb dX5_markBends_54 (by decide) ?_
  exact tX5_markBends_69 hd C0 hA N hk_6 _ _ _ _ _ _ _ _ _ _ _ _ _ _ H locs ls hf hP hD hS (lv_sub hl [0, 1, 2, 3, 4, 5] rfl)

def fX5_markBends_6 (N : Nat)  : Nat → Int32 → Int32 → Int32 → Int32 → Int32 → Int32 → Int32 → List Int32 → List Int32 → List Int32 → List Int32 → List Int32 → Option (Int32 × List Int32)
  | 0 => fun _ _ _ _ _ _ _ _ _ _ _ _ => none
  | n + 1 => fun x1 x2 x3 x4 x5 v_rows v_cols v_rowOf v_colOf v_face v_worn v_bend =>
    mm_bd1 (fX5_fields N v_rows v_cols) (fun (r_1 : Int32) =>
    if ((2 : Int32) * r_1) ≤ x5 then
    (some (x4, v_bend))
    else (mm_ck (mm_nz (2 : Int32)) (mm_ck (mm_nz (2 : Int32)) (mm_bd1 (fX5_neighbour N (x5 / (2 : Int32)) (mm_rem x5 (2 : Int32)) v_rows v_cols) (fun (r_6 : Int32) =>
    if r_6 < 0 then
    (fX5_markBends_53 N (fX5_markBends_6 N n) x1 x2 x3 x4 x5 x5 v_rows v_cols v_rowOf v_colOf v_face v_worn v_bend)
    else (mm_ck (mm_inb x5 v_worn.length) (if (mm_ig v_worn x5) < x3 then
    (mm_ck (mm_nz (2 : Int32)) (mm_bd1 (fX5_bendBetween N (x5 / (2 : Int32)) r_6 x1 x2 v_rowOf v_colOf v_face) (fun (r_12 : Int32) =>
    fX5_markBends_69 N (fX5_markBends_6 N n) x1 x2 x3 x4 x5 r_12 x5 v_rows v_cols v_rowOf v_colOf v_face v_worn v_bend)))
    else (fX5_markBends_53 N (fX5_markBends_6 N n) x1 x2 x3 x4 x5 x5 v_rows v_cols v_rowOf v_colOf v_face v_worn v_bend))))))))

set_option maxHeartbeats 4000000 in
set_option maxRecDepth 100000 in
theorem tX5_markBends_6 {p : Program} {l : Launch} {e : Env} {s : State} {m : MethodId} {args : Array Value} {below : List Frame} {meth : Method} {c : Code} {D : va_G} {cI cL cS cH : ClassId} {A : Nat → Prop} {d : Nat} {a : Nat → Nat} (hd : 4 ≤ d) (C0 : mm_Cx p s m args meth c RX5 cX5_markBends 7 (some .int) D (mm_T cI cL cS cH) A) (hA : ∀ q, s.heap.size ≤ q → A q) {v_high : Int32} {v_wide : Int32} {v_folds : Int32} {v_wrong : Int32} {v_more : Int32} {v_below : List Int32} {v_last : List Int32} {v_tall : List Int32} {r : Int32} {w_bend : List Int32} (N : Nat)  : ∀ (n : Nat), ∀ (x1 : Int32) (x2 : Int32) (x3 : Int32) (x4 : Int32) (x5 : Int32) (v_rows : Int32) (v_cols : Int32) (v_rowOf : List Int32) (v_colOf : List Int32) (v_face : List Int32) (v_worn : List Int32) (v_bend : List Int32) (H : Heap) (locs : List Loc) (ls : Array Slot), fX5_markBends_6 N n x1 x2 x3 x4 x5 v_rows v_cols v_rowOf v_colOf v_face v_worn v_bend = some (r, w_bend) → va_P D mm_cl (wd_X5 cI cL cS cH a v_rows v_cols v_high v_wide v_folds v_wrong v_more v_rowOf v_colOf v_below v_face v_worn v_last v_bend v_tall) H → va_D A (wd_X5 cI cL cS cH a v_rows v_cols v_high v_wide v_folds v_wrong v_more v_rowOf v_colOf v_below v_face v_worn v_last v_bend v_tall) → va_S A s.heap H locs → lv_has ls 7 [(0, .ref (a 0)), (1, .int x1), (2, .int x2), (3, .int x3), (4, .int x4), (5, .int x5)] → W p l e (mm_rr d) s m args below meth c H locs 0 0 (mm_Z below D A (wd_X5 cI cL cS cH a v_rows v_cols v_high v_wide v_folds v_wrong v_more v_rowOf v_colOf v_below v_face v_worn v_last w_bend v_tall) (some (.int r)) args s) (F0 m 6 ls []) := by
  obtain ⟨hx, hb, hml, hown, hts, hr, hlocks, hK, hSt⟩ := id C0
  intro n
  induction n with
  | zero =>
    intro x1 x2 x3 x4 x5 v_rows v_cols v_rowOf v_colOf v_face v_worn v_bend H locs ls hf
    cases (show none = some _ from hf)
  | succ n ih =>
    intro x1 x2 x3 x4 x5 v_rows v_cols v_rowOf v_colOf v_face v_worn v_bend H locs ls hf hP hD hS hl
    unfold fX5_markBends_6 at hf
    refine lv_iload hx hb dX5_markBends_6 (lv_at hl 5 rfl) ?_
    refine lv_iconst (v := 2) hx hb dX5_markBends_8 (by decide) ?_
    refine lv_aload_n hx hb dX5_markBends_9 rfl (lv_at hl 0 rfl) ?_
    obtain ⟨r_1, hc_2, hf⟩ := mm_bd1s hf
    refine mm_callVF (q0 := 0) (ci := 5) (rest := [.int (2 : Int32), .int x5]) C0 lk_X5_84 (ctX5_fields (a := a) (d := d - 1) (by omega) hc_2) (by omega) rfl hl.1 rfl (mm_cat rfl) dX5_markBends_10 hP hD hA hS rfl rfl (fun H locs hP hD hS => ?_)
    refine W.eq (g2 := F0 m 13 ls [.int r_1, .int (2 : Int32), .int x5]) rfl ?_
    refine lv_imul hx hb dX5_markBends_13 ?_
    refine lv_icmp_ge (tgt := 89) hx hb dX5_markBends_14 (by decide) (fun c_3 => ?_) (fun c_3 => ?_)
    · have hf := mm_ip hf c_3
      refine lv_iload hx hb dX5_markBends_89 (lv_at hl 4 rfl) ?_
      apply mm_sub2 hf
      exact mm_iret C0 hP hD hS dX5_markBends_91
    · have hf := mm_in hf c_3
      refine lv_aload_n hx hb dX5_markBends_17 rfl (lv_at hl 0 rfl) ?_
      refine lv_iload hx hb dX5_markBends_18 (lv_at hl 5 rfl) ?_
      refine lv_iconst (v := 2) hx hb dX5_markBends_20 (by decide) ?_
      obtain ⟨h_4, hf⟩ := mm_cks hf
      refine lv_idiv hx hb dX5_markBends_21 (mm_nzs h_4) ?_
      refine lv_iload hx hb dX5_markBends_22 (lv_at hl 5 rfl) ?_
      refine lv_iconst (v := 2) hx hb dX5_markBends_24 (by decide) ?_
      obtain ⟨h_5, hf⟩ := mm_cks hf
      refine lv_irem hx hb dX5_markBends_25 (mm_nzs h_5) ?_
      obtain ⟨r_6, hc_7, hf⟩ := mm_bd1s hf
      refine mm_callVF (q0 := 0) (ci := 5) (rest := []) C0 lk_X5_118 (ctX5_neighbour (a := a) (d := d - 1) (by omega) hc_7) (by omega) rfl hl.1 rfl (mm_cat rfl) dX5_markBends_26 hP hD hA hS rfl rfl (fun H locs hP hD hS => ?_)
      refine W.eq (g2 := F0 m 29 ls [.int r_6]) rfl ?_
      refine lv_istore (lv' := [(6, .int r_6), (0, .ref (a 0)), (1, .int x1), (2, .int x2), (3, .int x3), (4, .int x4), (5, .int x5)]) hx hb dX5_markBends_29 hl (by decide) rfl (fun ls hl => ?_)
      refine lv_aload_n hx hb dX5_markBends_31 rfl (lv_at hl 1 rfl) ?_
      refine mm_get C0 hP iw_X5 0 rfl rfl 13 (by decide) fl_X5_30 rfl dX5_markBends_32 ?_
      refine lv_iload hx hb dX5_markBends_35 (lv_at hl 6 rfl) ?_
      refine lv_iload hx hb dX5_markBends_37 (lv_at hl 0 rfl) ?_
      refine lv_if_lt (tgt := 53) hx hb dX5_markBends_39 (by decide) (fun c_8 => ?_) (fun c_8 => ?_)
      · have hf := mm_ip hf c_8
        exact tX5_markBends_53 hd C0 hA N ih _ _ _ _ _ _ _ _ _ _ _ _ _ H locs ls hf hP hD hS (lv_sub hl [1, 2, 3, 4, 5, 6] rfl)
      · have hf := mm_in hf c_8
        refine lv_aload_n hx hb dX5_markBends_42 rfl (lv_at hl 1 rfl) ?_
        refine mm_get C0 hP iw_X5 0 rfl rfl 11 (by decide) fl_X5_24 rfl dX5_markBends_43 ?_
        refine lv_iload hx hb dX5_markBends_46 (lv_at hl 6 rfl) ?_
        obtain ⟨h_9, hf⟩ := mm_cks hf
        refine mm_iald C0 hP 5 rfl h_9 dX5_markBends_48 ?_
        refine lv_iload_n hx hb dX5_markBends_49 rfl (lv_at hl 4 rfl) ?_
        refine lv_icmp_lt (tgt := 57) hx hb dX5_markBends_50 (by decide) (fun c_10 => ?_) (fun c_10 => ?_)
        · have hf := mm_ip hf c_10
          refine lv_aload_n hx hb dX5_markBends_57 rfl (lv_at hl 1 rfl) ?_
          refine lv_iload hx hb dX5_markBends_58 (lv_at hl 6 rfl) ?_
          refine lv_iconst (v := 2) hx hb dX5_markBends_60 (by decide) ?_
          obtain ⟨h_11, hf⟩ := mm_cks hf
          refine lv_idiv hx hb dX5_markBends_61 (mm_nzs h_11) ?_
          refine lv_iload hx hb dX5_markBends_62 (lv_at hl 0 rfl) ?_
          refine lv_iload_n hx hb dX5_markBends_64 rfl (lv_at hl 2 rfl) ?_
          refine lv_iload_n hx hb dX5_markBends_65 rfl (lv_at hl 3 rfl) ?_
          obtain ⟨r_12, hc_13, hf⟩ := mm_bd1s hf
          refine mm_callVF (q0 := 0) (ci := 5) (rest := [.int x5, .ref (a 7)]) C0 lk_X5_131 (ctX5_bendBetween (a := a) (d := d - 1) (by omega) hc_13) (by omega) rfl hl.1 rfl (mm_cat rfl) dX5_markBends_66 hP hD hA hS rfl rfl (fun H locs hP hD hS => ?_)
          refine W.eq (g2 := F0 m 69 ls [.int r_12, .int x5, .ref (a 7)]) rfl ?_
          exact tX5_markBends_69 hd C0 hA N ih _ _ _ _ _ _ _ _ _ _ _ _ _ _ H locs ls hf hP hD hS (lv_sub hl [1, 2, 3, 4, 5, 6] rfl)
        · have hf := mm_in hf c_10
          exact tX5_markBends_53 hd C0 hA N ih _ _ _ _ _ _ _ _ _ _ _ _ _ H locs ls hf hP hD hS (lv_sub hl [1, 2, 3, 4, 5, 6] rfl)

def fX5_markBends (N : Nat) (x1 : Int32) (x2 : Int32) (x3 : Int32) (v_rows : Int32) (v_cols : Int32) (v_rowOf : List Int32) (v_colOf : List Int32) (v_face : List Int32) (v_worn : List Int32) (v_bend : List Int32) : Option (Int32 × List Int32) :=
    fX5_markBends_6 N N x1 x2 x3 (0 : Int32) (0 : Int32) v_rows v_cols v_rowOf v_colOf v_face v_worn v_bend

set_option maxHeartbeats 4000000 in
set_option maxRecDepth 100000 in
theorem ctX5_markBends {l : Launch} {D : va_G} {cI cL cS cH : ClassId} {a : Nat → Nat} {x1 : Int32} {x2 : Int32} {x3 : Int32} {v_rows : Int32} {v_cols : Int32} {v_high : Int32} {v_wide : Int32} {v_folds : Int32} {v_wrong : Int32} {v_more : Int32} {v_rowOf : List Int32} {v_colOf : List Int32} {v_below : List Int32} {v_face : List Int32} {v_worn : List Int32} {v_last : List Int32} {v_bend : List Int32} {v_tall : List Int32} {r : Int32} {w_bend : List Int32} {N d : Nat} (hd : 4 ≤ d) (hf : fX5_markBends N x1 x2 x3 v_rows v_cols v_rowOf v_colOf v_face v_worn v_bend = some (r, w_bend)) : mm_Ct l yX5_markBends cX5_markBends 7 (some .int) d D (mm_T cI cL cS cH) [.ref (a 0), .int x1, .int x2, .int x3] (wd_X5 cI cL cS cH a v_rows v_cols v_high v_wide v_folds v_wrong v_more v_rowOf v_colOf v_below v_face v_worn v_last v_bend v_tall) (wd_X5 cI cL cS cH a v_rows v_cols v_high v_wide v_folds v_wrong v_more v_rowOf v_colOf v_below v_face v_worn v_last w_bend v_tall) (some (.int r)) := by
  refine mm_of (by decide) (Nat.le_of_ble_eq_true rfl) ?_
  intro p e s m args below meth c A H locs ls C0 hP hD hA hS hl
  have C0 : mm_Cx p s m args meth c RX5 cX5_markBends 7 (some .int) D (mm_T cI cL cS cH) A := C0
  obtain ⟨hx, hb, hml, hown, hts, hr, hlocks, hK, hSt⟩ := id C0
  have hl : lv_has ls 7 [(0, .ref (a 0)), (1, .int x1), (2, .int x2), (3, .int x3)] := hl
  unfold fX5_markBends at hf
  refine lv_iconst (v := 0) hx hb dX5_markBends_0 (by decide) ?_
  refine lv_istore (lv' := [(4, .int (0 : Int32)), (0, .ref (a 0)), (1, .int x1), (2, .int x2), (3, .int x3)]) hx hb dX5_markBends_1 hl (by decide) rfl (fun ls hl => ?_)
  refine lv_iconst (v := 0) hx hb dX5_markBends_3 (by decide) ?_
  refine lv_istore (lv' := [(5, .int (0 : Int32)), (4, .int (0 : Int32)), (0, .ref (a 0)), (1, .int x1), (2, .int x2), (3, .int x3)]) hx hb dX5_markBends_4 hl (by decide) rfl (fun ls hl => ?_)
  exact tX5_markBends_6 hd C0 hA N  N _ _ _ _ _ _ _ _ _ _ _ _ H locs ls hf hP hD hS (lv_sub hl [2, 3, 4, 5, 1, 0] rfl)

theorem nb_dX5_measurePiles_0 : bls_w cX5_measurePiles [(0, [42]), (1, [180, 0, 33]), (4, [3]), (5, [184, 0, 47]), (8, [3]), (9, [60]), (10, [27]), (11, [42]), (12, [182, 0, 84]), (15, [162, 0, 34]), (18, [42]), (19, [180, 0, 33])] := bls_of (by decide +kernel)
theorem dX5_measurePiles_0 : decode cX5_measurePiles 0 = .ok (.aload_n 0, 1) := op_42 nb_dX5_measurePiles_0.1
set_option maxRecDepth 100000 in
theorem dX5_measurePiles_1 : decode cX5_measurePiles 1 = .ok (.getfield 33, 3) := (op_180 nb_dX5_measurePiles_0.2.1).trans rfl
theorem dX5_measurePiles_4 : decode cX5_measurePiles 4 = .ok (.iconst 0, 1) := op_3 nb_dX5_measurePiles_0.2.2.1
set_option maxRecDepth 100000 in
theorem dX5_measurePiles_5 : decode cX5_measurePiles 5 = .ok (.invokestatic 47, 3) := (op_184 nb_dX5_measurePiles_0.2.2.2.1).trans rfl
theorem dX5_measurePiles_8 : decode cX5_measurePiles 8 = .ok (.iconst 0, 1) := op_3 nb_dX5_measurePiles_0.2.2.2.2.1
theorem dX5_measurePiles_9 : decode cX5_measurePiles 9 = .ok (.istore_n 1, 1) := op_60 nb_dX5_measurePiles_0.2.2.2.2.2.1
theorem dX5_measurePiles_10 : decode cX5_measurePiles 10 = .ok (.iload_n 1, 1) := op_27 nb_dX5_measurePiles_0.2.2.2.2.2.2.1
theorem dX5_measurePiles_11 : decode cX5_measurePiles 11 = .ok (.aload_n 0, 1) := op_42 nb_dX5_measurePiles_0.2.2.2.2.2.2.2.1
set_option maxRecDepth 100000 in
theorem dX5_measurePiles_12 : decode cX5_measurePiles 12 = .ok (.invokevirtual 84, 3) := (op_182 nb_dX5_measurePiles_0.2.2.2.2.2.2.2.2.1).trans rfl
set_option maxRecDepth 100000 in
theorem dX5_measurePiles_15 : decode cX5_measurePiles 15 = .ok (.if_icmp .ge 34, 3) := (op_162 nb_dX5_measurePiles_0.2.2.2.2.2.2.2.2.2.1).trans rfl
theorem dX5_measurePiles_18 : decode cX5_measurePiles 18 = .ok (.aload_n 0, 1) := op_42 nb_dX5_measurePiles_0.2.2.2.2.2.2.2.2.2.2.1
set_option maxRecDepth 100000 in
theorem dX5_measurePiles_19 : decode cX5_measurePiles 19 = .ok (.getfield 33, 3) := (op_180 nb_dX5_measurePiles_0.2.2.2.2.2.2.2.2.2.2.2.1).trans rfl
theorem nb_dX5_measurePiles_22 : bls_w cX5_measurePiles [(22, [42]), (23, [180, 0, 9]), (26, [27]), (27, [46]), (28, [16, 8]), (30, [104]), (31, [42]), (32, [180, 0, 15]), (35, [27]), (36, [46]), (37, [96]), (38, [92])] := bls_of (by decide +kernel)
theorem dX5_measurePiles_22 : decode cX5_measurePiles 22 = .ok (.aload_n 0, 1) := op_42 nb_dX5_measurePiles_22.1
set_option maxRecDepth 100000 in
theorem dX5_measurePiles_23 : decode cX5_measurePiles 23 = .ok (.getfield 9, 3) := (op_180 nb_dX5_measurePiles_22.2.1).trans rfl
theorem dX5_measurePiles_26 : decode cX5_measurePiles 26 = .ok (.iload_n 1, 1) := op_27 nb_dX5_measurePiles_22.2.2.1
theorem dX5_measurePiles_27 : decode cX5_measurePiles 27 = .ok (.iaload, 1) := op_46 nb_dX5_measurePiles_22.2.2.2.1
set_option maxRecDepth 100000 in
theorem dX5_measurePiles_28 : decode cX5_measurePiles 28 = .ok (.bipush 8, 2) := (op_16 nb_dX5_measurePiles_22.2.2.2.2.1).trans rfl
theorem dX5_measurePiles_30 : decode cX5_measurePiles 30 = .ok (.imul, 1) := op_104 nb_dX5_measurePiles_22.2.2.2.2.2.1
theorem dX5_measurePiles_31 : decode cX5_measurePiles 31 = .ok (.aload_n 0, 1) := op_42 nb_dX5_measurePiles_22.2.2.2.2.2.2.1
set_option maxRecDepth 100000 in
theorem dX5_measurePiles_32 : decode cX5_measurePiles 32 = .ok (.getfield 15, 3) := (op_180 nb_dX5_measurePiles_22.2.2.2.2.2.2.2.1).trans rfl
theorem dX5_measurePiles_35 : decode cX5_measurePiles 35 = .ok (.iload_n 1, 1) := op_27 nb_dX5_measurePiles_22.2.2.2.2.2.2.2.2.1
theorem dX5_measurePiles_36 : decode cX5_measurePiles 36 = .ok (.iaload, 1) := op_46 nb_dX5_measurePiles_22.2.2.2.2.2.2.2.2.2.1
theorem dX5_measurePiles_37 : decode cX5_measurePiles 37 = .ok (.iadd, 1) := op_96 nb_dX5_measurePiles_22.2.2.2.2.2.2.2.2.2.2.1
theorem dX5_measurePiles_38 : decode cX5_measurePiles 38 = .ok (.dup2, 1) := op_92 nb_dX5_measurePiles_22.2.2.2.2.2.2.2.2.2.2.2.1
theorem nb_dX5_measurePiles_39 : bls_w cX5_measurePiles [(39, [46]), (40, [4]), (41, [96]), (42, [79]), (43, [132, 1, 1]), (46, [167, 255, 220]), (49, [177])] := bls_of (by decide +kernel)
theorem dX5_measurePiles_39 : decode cX5_measurePiles 39 = .ok (.iaload, 1) := op_46 nb_dX5_measurePiles_39.1
theorem dX5_measurePiles_40 : decode cX5_measurePiles 40 = .ok (.iconst 1, 1) := op_4 nb_dX5_measurePiles_39.2.1
theorem dX5_measurePiles_41 : decode cX5_measurePiles 41 = .ok (.iadd, 1) := op_96 nb_dX5_measurePiles_39.2.2.1
theorem dX5_measurePiles_42 : decode cX5_measurePiles 42 = .ok (.iastore, 1) := op_79 nb_dX5_measurePiles_39.2.2.2.1
set_option maxRecDepth 100000 in
theorem dX5_measurePiles_43 : decode cX5_measurePiles 43 = .ok (.iinc 1 1, 3) := (op_132 nb_dX5_measurePiles_39.2.2.2.2.1).trans rfl
set_option maxRecDepth 100000 in
theorem dX5_measurePiles_46 : decode cX5_measurePiles 46 = .ok (.goto (-36), 3) := (op_167 nb_dX5_measurePiles_39.2.2.2.2.2.1).trans rfl
theorem dX5_measurePiles_49 : decode cX5_measurePiles 49 = .ok (.return_, 1) := op_177 nb_dX5_measurePiles_39.2.2.2.2.2.2.1
def fX5_measurePiles_10 (N : Nat)  : Nat → Int32 → Int32 → Int32 → List Int32 → List Int32 → List Int32 → Option (List Int32)
  | 0 => fun _ _ _ _ _ _ => none
  | n + 1 => fun x1 v_rows v_cols v_rowOf v_colOf v_tall =>
    mm_bd1 (fX5_fields N v_rows v_cols) (fun (r_3 : Int32) =>
    if r_3 ≤ x1 then
    (some (v_tall))
    else (mm_ck (mm_inb x1 v_rowOf.length) (mm_ck (mm_inb x1 v_colOf.length) (mm_ck (mm_inb (((mm_ig v_rowOf x1) * (8 : Int32)) + (mm_ig v_colOf x1)) v_tall.length) (mm_nm (((mm_ig v_tall (((mm_ig v_rowOf x1) * (8 : Int32)) + (mm_ig v_colOf x1))) + (1 : Int32))) (fun (y_9 : Int32) =>
    mm_ck (mm_inb (((mm_ig v_rowOf x1) * (8 : Int32)) + (mm_ig v_colOf x1)) v_tall.length) (mm_nm (mm_is v_tall (((mm_ig v_rowOf x1) * (8 : Int32)) + (mm_ig v_colOf x1)) y_9) (fun (l_11 : List Int32) =>
    mm_nm (x1 + (1 : Int32)) (fun (y_12 : Int32) =>
    fX5_measurePiles_10 N n y_12 v_rows v_cols v_rowOf v_colOf l_11)))))))))

set_option maxHeartbeats 4000000 in
set_option maxRecDepth 100000 in
theorem tX5_measurePiles_10 {p : Program} {l : Launch} {e : Env} {s : State} {m : MethodId} {args : Array Value} {below : List Frame} {meth : Method} {c : Code} {D : va_G} {cI cL cS cH : ClassId} {A : Nat → Prop} {d : Nat} {a : Nat → Nat} (hd : 2 ≤ d) (C0 : mm_Cx p s m args meth c RX5 cX5_measurePiles 2 none D (mm_T cI cL cS cH) A) (hA : ∀ q, s.heap.size ≤ q → A q) {v_high : Int32} {v_wide : Int32} {v_folds : Int32} {v_wrong : Int32} {v_more : Int32} {v_below : List Int32} {v_face : List Int32} {v_worn : List Int32} {v_last : List Int32} {v_bend : List Int32} {w_tall : List Int32} (N : Nat)  : ∀ (n : Nat), ∀ (x1 : Int32) (v_rows : Int32) (v_cols : Int32) (v_rowOf : List Int32) (v_colOf : List Int32) (v_tall : List Int32) (H : Heap) (locs : List Loc) (ls : Array Slot), fX5_measurePiles_10 N n x1 v_rows v_cols v_rowOf v_colOf v_tall = some w_tall → va_P D mm_cl (wd_X5 cI cL cS cH a v_rows v_cols v_high v_wide v_folds v_wrong v_more v_rowOf v_colOf v_below v_face v_worn v_last v_bend v_tall) H → va_D A (wd_X5 cI cL cS cH a v_rows v_cols v_high v_wide v_folds v_wrong v_more v_rowOf v_colOf v_below v_face v_worn v_last v_bend v_tall) → va_S A s.heap H locs → lv_has ls 2 [(0, .ref (a 0)), (1, .int x1)] → W p l e (mm_rr d) s m args below meth c H locs 0 0 (mm_Z below D A (wd_X5 cI cL cS cH a v_rows v_cols v_high v_wide v_folds v_wrong v_more v_rowOf v_colOf v_below v_face v_worn v_last v_bend w_tall) none args s) (F0 m 10 ls []) := by
  obtain ⟨hx, hb, hml, hown, hts, hr, hlocks, hK, hSt⟩ := id C0
  intro n
  induction n with
  | zero =>
    intro x1 v_rows v_cols v_rowOf v_colOf v_tall H locs ls hf
    cases (show none = some _ from hf)
  | succ n ih =>
    intro x1 v_rows v_cols v_rowOf v_colOf v_tall H locs ls hf hP hD hS hl
    unfold fX5_measurePiles_10 at hf
    refine lv_iload_n hx hb dX5_measurePiles_10 rfl (lv_at hl 1 rfl) ?_
    refine lv_aload_n hx hb dX5_measurePiles_11 rfl (lv_at hl 0 rfl) ?_
    obtain ⟨r_3, hc_4, hf⟩ := mm_bd1s hf
    refine mm_callVF (q0 := 0) (ci := 5) (rest := [.int x1]) C0 lk_X5_84 (ctX5_fields (a := a) (d := d - 1) (by omega) hc_4) (by omega) rfl hl.1 rfl (mm_cat rfl) dX5_measurePiles_12 hP hD hA hS rfl rfl (fun H locs hP hD hS => ?_)
    refine W.eq (g2 := F0 m 15 ls [.int r_3, .int x1]) rfl ?_
    refine lv_icmp_ge (tgt := 49) hx hb dX5_measurePiles_15 (by decide) (fun c_5 => ?_) (fun c_5 => ?_)
    · have hf := mm_ip hf c_5
      obtain rfl := mm_inj1 hf
      exact mm_vret C0 hP hD hS dX5_measurePiles_49
    · have hf := mm_in hf c_5
      refine lv_aload_n hx hb dX5_measurePiles_18 rfl (lv_at hl 0 rfl) ?_
      refine mm_get C0 hP iw_X5 0 rfl rfl 14 (by decide) fl_X5_33 rfl dX5_measurePiles_19 ?_
      refine lv_aload_n hx hb dX5_measurePiles_22 rfl (lv_at hl 0 rfl) ?_
      refine mm_get C0 hP iw_X5 0 rfl rfl 7 (by decide) fl_X5_9 rfl dX5_measurePiles_23 ?_
      refine lv_iload_n hx hb dX5_measurePiles_26 rfl (lv_at hl 1 rfl) ?_
      obtain ⟨h_6, hf⟩ := mm_cks hf
      refine mm_iald C0 hP 1 rfl h_6 dX5_measurePiles_27 ?_
      refine lv_bipush (v := 8) hx hb dX5_measurePiles_28 (by decide) ?_
      refine lv_imul hx hb dX5_measurePiles_30 ?_
      refine lv_aload_n hx hb dX5_measurePiles_31 rfl (lv_at hl 0 rfl) ?_
      refine mm_get C0 hP iw_X5 0 rfl rfl 8 (by decide) fl_X5_15 rfl dX5_measurePiles_32 ?_
      refine lv_iload_n hx hb dX5_measurePiles_35 rfl (lv_at hl 1 rfl) ?_
      obtain ⟨h_7, hf⟩ := mm_cks hf
      refine mm_iald C0 hP 2 rfl h_7 dX5_measurePiles_36 ?_
      refine lv_iadd hx hb dX5_measurePiles_37 ?_
      refine lv_dup2_11 hx hb dX5_measurePiles_38 rfl rfl ?_
      obtain ⟨h_8, hf⟩ := mm_cks hf
      refine mm_iald C0 hP 8 rfl h_8 dX5_measurePiles_39 ?_
      refine lv_iconst (v := 1) hx hb dX5_measurePiles_40 (by decide) ?_
      refine lv_iadd hx hb dX5_measurePiles_41 ?_
      refine lv_topi (fun y_9 ey_9 => ?_)
      have hf := mm_nms hf ey_9
      obtain ⟨h_10, hf⟩ := mm_cks hf
      refine mm_iast C0 hP hD hS 8 rfl h_10 dX5_measurePiles_42 (w2 := (wd_X5 cI cL cS cH a v_rows v_cols v_high v_wide v_folds v_wrong v_more v_rowOf v_colOf v_below v_face v_worn v_last v_bend (mm_is v_tall (((mm_ig v_rowOf x1) * (8 : Int32)) + (mm_ig v_colOf x1)) y_9))) rfl (fun H locs hP hD hS => ?_)
      generalize el_11 : (mm_is v_tall (((mm_ig v_rowOf x1) * (8 : Int32)) + (mm_ig v_colOf x1)) y_9) = l_11 at hP hD
      have hf := mm_nms hf el_11.symm
      obtain ⟨y_12, ey_12⟩ : ∃ z : Int32, z = x1 + (1 : Int32) := ⟨_, rfl⟩
      have hf := mm_nms hf ey_12
      refine lv_iinc (v := y_12) (lv' := [(1, .int y_12), (0, .ref (a 0))]) hx hb dX5_measurePiles_43 hl (k := 1) rfl (by rw [ey_12]; rfl) (by decide) rfl (fun ls hl => ?_)
      refine lv_goto (tgt := 10) hx hb dX5_measurePiles_46 (by decide) ?_
      exact ih _ _ _ _ _ _ H locs ls hf hP hD hS (lv_sub hl [1, 0] rfl)

def fX5_measurePiles (N : Nat) (v_rows : Int32) (v_cols : Int32) (v_rowOf : List Int32) (v_colOf : List Int32) (v_tall : List Int32) : Option (List Int32) :=
    mm_bd1 (fJ7_fill_53178 N (0 : Int32) v_tall) (fun (w_1 : List Int32) =>
    fX5_measurePiles_10 N N (0 : Int32) v_rows v_cols v_rowOf v_colOf w_1)

set_option maxHeartbeats 4000000 in
set_option maxRecDepth 100000 in
theorem ctX5_measurePiles {l : Launch} {D : va_G} {cI cL cS cH : ClassId} {a : Nat → Nat}  {v_rows : Int32} {v_cols : Int32} {v_high : Int32} {v_wide : Int32} {v_folds : Int32} {v_wrong : Int32} {v_more : Int32} {v_rowOf : List Int32} {v_colOf : List Int32} {v_below : List Int32} {v_face : List Int32} {v_worn : List Int32} {v_last : List Int32} {v_bend : List Int32} {v_tall : List Int32} {w_tall : List Int32} {N d : Nat} (hd : 2 ≤ d) (hf : fX5_measurePiles N v_rows v_cols v_rowOf v_colOf v_tall = some w_tall) : mm_Ct l yX5_measurePiles cX5_measurePiles 2 none d D (mm_T cI cL cS cH) [.ref (a 0)] (wd_X5 cI cL cS cH a v_rows v_cols v_high v_wide v_folds v_wrong v_more v_rowOf v_colOf v_below v_face v_worn v_last v_bend v_tall) (wd_X5 cI cL cS cH a v_rows v_cols v_high v_wide v_folds v_wrong v_more v_rowOf v_colOf v_below v_face v_worn v_last v_bend w_tall) none := by
  refine mm_of (by decide) (Nat.le_of_ble_eq_true rfl) ?_
  intro p e s m args below meth c A H locs ls C0 hP hD hA hS hl
  have C0 : mm_Cx p s m args meth c RX5 cX5_measurePiles 2 none D (mm_T cI cL cS cH) A := C0
  obtain ⟨hx, hb, hml, hown, hts, hr, hlocks, hK, hSt⟩ := id C0
  have hl : lv_has ls 2 [(0, .ref (a 0))] := hl
  unfold fX5_measurePiles at hf
  refine lv_aload_n hx hb dX5_measurePiles_0 rfl (lv_at hl 0 rfl) ?_
  refine mm_get C0 hP iw_X5 0 rfl rfl 14 (by decide) fl_X5_33 rfl dX5_measurePiles_1 ?_
  refine lv_iconst (v := 0) hx hb dX5_measurePiles_4 (by decide) ?_
  obtain ⟨w_1, hc_2, hf⟩ := mm_bd1s hf
  refine mm_callT (w2 := (wd_X5 cI cL cS cH a v_rows v_cols v_high v_wide v_folds v_wrong v_more v_rowOf v_colOf v_below v_face v_worn v_last v_bend w_1)) (rest := []) C0 lk_X5_47 (ctJ7_fill_53178 (a := (fun k => a (k + 8))) (d := d - 1) (by omega) hc_2) (by omega) rfl hl.1 rfl (mm_cat rfl) dX5_measurePiles_5 hP hD hA hS [false, false, false, false, false, false, false, false, true] rfl rfl rfl rfl (fun H locs hP hD hS => ?_)
  refine W.eq (g2 := F0 m 8 ls []) rfl ?_
  refine lv_iconst (v := 0) hx hb dX5_measurePiles_8 (by decide) ?_
  refine lv_istore_n (lv' := [(1, .int (0 : Int32)), (0, .ref (a 0))]) hx hb dX5_measurePiles_9 rfl hl (by decide) rfl (fun ls hl => ?_)
  exact tX5_measurePiles_10 hd C0 hA N  N _ _ _ _ _ _ H locs ls hf hP hD hS (lv_sub hl [1, 0] rfl)

theorem nb_dX5_narrow_0 : bls_w cX5_narrow [(0, [27]), (1, [7]), (2, [162, 0, 11]), (5, [42]), (6, [28]), (7, [181, 0, 71]), (10, [167, 0, 8]), (13, [42]), (14, [28]), (15, [181, 0, 68]), (18, [177])] := bls_of (by decide +kernel)
theorem dX5_narrow_0 : decode cX5_narrow 0 = .ok (.iload_n 1, 1) := op_27 nb_dX5_narrow_0.1
theorem dX5_narrow_1 : decode cX5_narrow 1 = .ok (.iconst 4, 1) := op_7 nb_dX5_narrow_0.2.1
set_option maxRecDepth 100000 in
theorem dX5_narrow_2 : decode cX5_narrow 2 = .ok (.if_icmp .ge 11, 3) := (op_162 nb_dX5_narrow_0.2.2.1).trans rfl
theorem dX5_narrow_5 : decode cX5_narrow 5 = .ok (.aload_n 0, 1) := op_42 nb_dX5_narrow_0.2.2.2.1
theorem dX5_narrow_6 : decode cX5_narrow 6 = .ok (.iload_n 2, 1) := op_28 nb_dX5_narrow_0.2.2.2.2.1
set_option maxRecDepth 100000 in
theorem dX5_narrow_7 : decode cX5_narrow 7 = .ok (.putfield 71, 3) := (op_181 nb_dX5_narrow_0.2.2.2.2.2.1).trans rfl
set_option maxRecDepth 100000 in
theorem dX5_narrow_10 : decode cX5_narrow 10 = .ok (.goto 8, 3) := (op_167 nb_dX5_narrow_0.2.2.2.2.2.2.1).trans rfl
theorem dX5_narrow_13 : decode cX5_narrow 13 = .ok (.aload_n 0, 1) := op_42 nb_dX5_narrow_0.2.2.2.2.2.2.2.1
theorem dX5_narrow_14 : decode cX5_narrow 14 = .ok (.iload_n 2, 1) := op_28 nb_dX5_narrow_0.2.2.2.2.2.2.2.2.1
set_option maxRecDepth 100000 in
theorem dX5_narrow_15 : decode cX5_narrow 15 = .ok (.putfield 68, 3) := (op_181 nb_dX5_narrow_0.2.2.2.2.2.2.2.2.2.1).trans rfl
theorem dX5_narrow_18 : decode cX5_narrow 18 = .ok (.return_, 1) := op_177 nb_dX5_narrow_0.2.2.2.2.2.2.2.2.2.2.1
def fX5_narrow (N : Nat) (x1 : Int32) (x2 : Int32) (v_high : Int32) (v_wide : Int32) : Option (Int32 × Int32) :=
    if (4 : Int32) ≤ x1 then
    (some (x2, v_wide))
    else (some (v_high, x2))

set_option maxHeartbeats 4000000 in
set_option maxRecDepth 100000 in
theorem ctX5_narrow {l : Launch} {D : va_G} {cI cL cS cH : ClassId} {a : Nat → Nat} {x1 : Int32} {x2 : Int32} {v_rows : Int32} {v_cols : Int32} {v_high : Int32} {v_wide : Int32} {v_folds : Int32} {v_wrong : Int32} {v_more : Int32} {v_rowOf : List Int32} {v_colOf : List Int32} {v_below : List Int32} {v_face : List Int32} {v_worn : List Int32} {v_last : List Int32} {v_bend : List Int32} {v_tall : List Int32} {w_high : Int32} {w_wide : Int32} {N d : Nat} (hd : 1 ≤ d) (hf : fX5_narrow N x1 x2 v_high v_wide = some (w_high, w_wide)) : mm_Ct l yX5_narrow cX5_narrow 3 none d D (mm_T cI cL cS cH) [.ref (a 0), .int x1, .int x2] (wd_X5 cI cL cS cH a v_rows v_cols v_high v_wide v_folds v_wrong v_more v_rowOf v_colOf v_below v_face v_worn v_last v_bend v_tall) (wd_X5 cI cL cS cH a v_rows v_cols w_high w_wide v_folds v_wrong v_more v_rowOf v_colOf v_below v_face v_worn v_last v_bend v_tall) none := by
  refine mm_of (by decide) (Nat.le_of_ble_eq_true rfl) ?_
  intro p e s m args below meth c A H locs ls C0 hP hD hA hS hl
  have C0 : mm_Cx p s m args meth c RX5 cX5_narrow 3 none D (mm_T cI cL cS cH) A := C0
  obtain ⟨hx, hb, hml, hown, hts, hr, hlocks, hK, hSt⟩ := id C0
  have hl : lv_has ls 3 [(0, .ref (a 0)), (1, .int x1), (2, .int x2)] := hl
  unfold fX5_narrow at hf
  refine lv_iload_n hx hb dX5_narrow_0 rfl (lv_at hl 1 rfl) ?_
  refine lv_iconst (v := 4) hx hb dX5_narrow_1 (by decide) ?_
  refine lv_icmp_ge (tgt := 13) hx hb dX5_narrow_2 (by decide) (fun c_1 => ?_) (fun c_1 => ?_)
  · have hf := mm_ip hf c_1
    refine lv_aload_n hx hb dX5_narrow_13 rfl (lv_at hl 0 rfl) ?_
    refine lv_iload_n hx hb dX5_narrow_14 rfl (lv_at hl 2 rfl) ?_
    refine mm_put C0 hP hD hS iw_X5 tyX5 tyX5_ok nmX5 0 rfl rfl 2 (by decide) fl_X5_68 rfl rfl rfl (Nat.le_of_ble_eq_true rfl) dX5_narrow_15 (w2 := (wd_X5 cI cL cS cH a v_rows v_cols x2 v_wide v_folds v_wrong v_more v_rowOf v_colOf v_below v_face v_worn v_last v_bend v_tall)) rfl (fun H locs hP hD hS => ?_)
    apply mm_sub2 hf
    exact mm_vret C0 hP hD hS dX5_narrow_18
  · have hf := mm_in hf c_1
    refine lv_aload_n hx hb dX5_narrow_5 rfl (lv_at hl 0 rfl) ?_
    refine lv_iload_n hx hb dX5_narrow_6 rfl (lv_at hl 2 rfl) ?_
    refine mm_put C0 hP hD hS iw_X5 tyX5 tyX5_ok nmX5 0 rfl rfl 3 (by decide) fl_X5_71 rfl rfl rfl (Nat.le_of_ble_eq_true rfl) dX5_narrow_7 (w2 := (wd_X5 cI cL cS cH a v_rows v_cols v_high x2 v_folds v_wrong v_more v_rowOf v_colOf v_below v_face v_worn v_last v_bend v_tall)) rfl (fun H locs hP hD hS => ?_)
    refine lv_goto (tgt := 18) hx hb dX5_narrow_10 (by decide) ?_
    apply mm_sub2 hf
    exact mm_vret C0 hP hD hS dX5_narrow_18

theorem nb_dX5_setAlong_0 : bls_w cX5_setAlong [(0, [28]), (1, [7]), (2, [162, 0, 13]), (5, [42]), (6, [180, 0, 15]), (9, [27]), (10, [29]), (11, [79]), (12, [167, 0, 10]), (15, [42]), (16, [180, 0, 9]), (19, [27])] := bls_of (by decide +kernel)
theorem dX5_setAlong_0 : decode cX5_setAlong 0 = .ok (.iload_n 2, 1) := op_28 nb_dX5_setAlong_0.1
theorem dX5_setAlong_1 : decode cX5_setAlong 1 = .ok (.iconst 4, 1) := op_7 nb_dX5_setAlong_0.2.1
set_option maxRecDepth 100000 in
theorem dX5_setAlong_2 : decode cX5_setAlong 2 = .ok (.if_icmp .ge 13, 3) := (op_162 nb_dX5_setAlong_0.2.2.1).trans rfl
theorem dX5_setAlong_5 : decode cX5_setAlong 5 = .ok (.aload_n 0, 1) := op_42 nb_dX5_setAlong_0.2.2.2.1
set_option maxRecDepth 100000 in
theorem dX5_setAlong_6 : decode cX5_setAlong 6 = .ok (.getfield 15, 3) := (op_180 nb_dX5_setAlong_0.2.2.2.2.1).trans rfl
theorem dX5_setAlong_9 : decode cX5_setAlong 9 = .ok (.iload_n 1, 1) := op_27 nb_dX5_setAlong_0.2.2.2.2.2.1
theorem dX5_setAlong_10 : decode cX5_setAlong 10 = .ok (.iload_n 3, 1) := op_29 nb_dX5_setAlong_0.2.2.2.2.2.2.1
theorem dX5_setAlong_11 : decode cX5_setAlong 11 = .ok (.iastore, 1) := op_79 nb_dX5_setAlong_0.2.2.2.2.2.2.2.1
set_option maxRecDepth 100000 in
theorem dX5_setAlong_12 : decode cX5_setAlong 12 = .ok (.goto 10, 3) := (op_167 nb_dX5_setAlong_0.2.2.2.2.2.2.2.2.1).trans rfl
theorem dX5_setAlong_15 : decode cX5_setAlong 15 = .ok (.aload_n 0, 1) := op_42 nb_dX5_setAlong_0.2.2.2.2.2.2.2.2.2.1
set_option maxRecDepth 100000 in
theorem dX5_setAlong_16 : decode cX5_setAlong 16 = .ok (.getfield 9, 3) := (op_180 nb_dX5_setAlong_0.2.2.2.2.2.2.2.2.2.2.1).trans rfl
theorem dX5_setAlong_19 : decode cX5_setAlong 19 = .ok (.iload_n 1, 1) := op_27 nb_dX5_setAlong_0.2.2.2.2.2.2.2.2.2.2.2.1
theorem nb_dX5_setAlong_20 : bls_w cX5_setAlong [(20, [29]), (21, [79]), (22, [177])] := bls_of (by decide +kernel)
theorem dX5_setAlong_20 : decode cX5_setAlong 20 = .ok (.iload_n 3, 1) := op_29 nb_dX5_setAlong_20.1
theorem dX5_setAlong_21 : decode cX5_setAlong 21 = .ok (.iastore, 1) := op_79 nb_dX5_setAlong_20.2.1
theorem dX5_setAlong_22 : decode cX5_setAlong 22 = .ok (.return_, 1) := op_177 nb_dX5_setAlong_20.2.2.1
def fX5_setAlong (N : Nat) (x1 : Int32) (x2 : Int32) (x3 : Int32) (v_rowOf : List Int32) (v_colOf : List Int32) : Option (List Int32 × List Int32) :=
    if (4 : Int32) ≤ x2 then
    (mm_ck (mm_inb x1 v_rowOf.length) (mm_nm (mm_is v_rowOf x1 x3) (fun (l_3 : List Int32) =>
    some (l_3, v_colOf))))
    else (mm_ck (mm_inb x1 v_colOf.length) (mm_nm (mm_is v_colOf x1 x3) (fun (l_5 : List Int32) =>
    some (v_rowOf, l_5))))

set_option maxHeartbeats 4000000 in
set_option maxRecDepth 100000 in
theorem ctX5_setAlong {l : Launch} {D : va_G} {cI cL cS cH : ClassId} {a : Nat → Nat} {x1 : Int32} {x2 : Int32} {x3 : Int32} {v_rows : Int32} {v_cols : Int32} {v_high : Int32} {v_wide : Int32} {v_folds : Int32} {v_wrong : Int32} {v_more : Int32} {v_rowOf : List Int32} {v_colOf : List Int32} {v_below : List Int32} {v_face : List Int32} {v_worn : List Int32} {v_last : List Int32} {v_bend : List Int32} {v_tall : List Int32} {w_rowOf : List Int32} {w_colOf : List Int32} {N d : Nat} (hd : 1 ≤ d) (hf : fX5_setAlong N x1 x2 x3 v_rowOf v_colOf = some (w_rowOf, w_colOf)) : mm_Ct l yX5_setAlong cX5_setAlong 4 none d D (mm_T cI cL cS cH) [.ref (a 0), .int x1, .int x2, .int x3] (wd_X5 cI cL cS cH a v_rows v_cols v_high v_wide v_folds v_wrong v_more v_rowOf v_colOf v_below v_face v_worn v_last v_bend v_tall) (wd_X5 cI cL cS cH a v_rows v_cols v_high v_wide v_folds v_wrong v_more w_rowOf w_colOf v_below v_face v_worn v_last v_bend v_tall) none := by
  refine mm_of (by decide) (Nat.le_of_ble_eq_true rfl) ?_
  intro p e s m args below meth c A H locs ls C0 hP hD hA hS hl
  have C0 : mm_Cx p s m args meth c RX5 cX5_setAlong 4 none D (mm_T cI cL cS cH) A := C0
  obtain ⟨hx, hb, hml, hown, hts, hr, hlocks, hK, hSt⟩ := id C0
  have hl : lv_has ls 4 [(0, .ref (a 0)), (1, .int x1), (2, .int x2), (3, .int x3)] := hl
  unfold fX5_setAlong at hf
  refine lv_iload_n hx hb dX5_setAlong_0 rfl (lv_at hl 2 rfl) ?_
  refine lv_iconst (v := 4) hx hb dX5_setAlong_1 (by decide) ?_
  refine lv_icmp_ge (tgt := 15) hx hb dX5_setAlong_2 (by decide) (fun c_1 => ?_) (fun c_1 => ?_)
  · have hf := mm_ip hf c_1
    refine lv_aload_n hx hb dX5_setAlong_15 rfl (lv_at hl 0 rfl) ?_
    refine mm_get C0 hP iw_X5 0 rfl rfl 7 (by decide) fl_X5_9 rfl dX5_setAlong_16 ?_
    refine lv_iload_n hx hb dX5_setAlong_19 rfl (lv_at hl 1 rfl) ?_
    refine lv_iload_n hx hb dX5_setAlong_20 rfl (lv_at hl 3 rfl) ?_
    obtain ⟨h_2, hf⟩ := mm_cks hf
    refine mm_iast C0 hP hD hS 1 rfl h_2 dX5_setAlong_21 (w2 := (wd_X5 cI cL cS cH a v_rows v_cols v_high v_wide v_folds v_wrong v_more (mm_is v_rowOf x1 x3) v_colOf v_below v_face v_worn v_last v_bend v_tall)) rfl (fun H locs hP hD hS => ?_)
    generalize el_3 : (mm_is v_rowOf x1 x3) = l_3 at hP hD
    have hf := mm_nms hf el_3.symm
    apply mm_sub2 hf
    exact mm_vret C0 hP hD hS dX5_setAlong_22
  · have hf := mm_in hf c_1
    refine lv_aload_n hx hb dX5_setAlong_5 rfl (lv_at hl 0 rfl) ?_
    refine mm_get C0 hP iw_X5 0 rfl rfl 8 (by decide) fl_X5_15 rfl dX5_setAlong_6 ?_
    refine lv_iload_n hx hb dX5_setAlong_9 rfl (lv_at hl 1 rfl) ?_
    refine lv_iload_n hx hb dX5_setAlong_10 rfl (lv_at hl 3 rfl) ?_
    obtain ⟨h_4, hf⟩ := mm_cks hf
    refine mm_iast C0 hP hD hS 2 rfl h_4 dX5_setAlong_11 (w2 := (wd_X5 cI cL cS cH a v_rows v_cols v_high v_wide v_folds v_wrong v_more v_rowOf (mm_is v_colOf x1 x3) v_below v_face v_worn v_last v_bend v_tall)) rfl (fun H locs hP hD hS => ?_)
    generalize el_5 : (mm_is v_colOf x1 x3) = l_5 at hP hD
    have hf := mm_nms hf el_5.symm
    refine lv_goto (tgt := 22) hx hb dX5_setAlong_12 (by decide) ?_
    apply mm_sub2 hf
    exact mm_vret C0 hP hD hS dX5_setAlong_22

theorem nb_dX5_tallAt_0 : bls_w cX5_tallAt [(0, [27]), (1, [155, 0, 12]), (4, [27]), (5, [42]), (6, [29]), (7, [182, 0, 88]), (10, [161, 0, 5]), (13, [3]), (14, [172]), (15, [29]), (16, [7]), (17, [162, 0, 17])] := bls_of (by decide +kernel)
theorem dX5_tallAt_0 : decode cX5_tallAt 0 = .ok (.iload_n 1, 1) := op_27 nb_dX5_tallAt_0.1
set_option maxRecDepth 100000 in
theorem dX5_tallAt_1 : decode cX5_tallAt 1 = .ok (.ifCond .lt 12, 3) := (op_155 nb_dX5_tallAt_0.2.1).trans rfl
theorem dX5_tallAt_4 : decode cX5_tallAt 4 = .ok (.iload_n 1, 1) := op_27 nb_dX5_tallAt_0.2.2.1
theorem dX5_tallAt_5 : decode cX5_tallAt 5 = .ok (.aload_n 0, 1) := op_42 nb_dX5_tallAt_0.2.2.2.1
theorem dX5_tallAt_6 : decode cX5_tallAt 6 = .ok (.iload_n 3, 1) := op_29 nb_dX5_tallAt_0.2.2.2.2.1
set_option maxRecDepth 100000 in
theorem dX5_tallAt_7 : decode cX5_tallAt 7 = .ok (.invokevirtual 88, 3) := (op_182 nb_dX5_tallAt_0.2.2.2.2.2.1).trans rfl
set_option maxRecDepth 100000 in
theorem dX5_tallAt_10 : decode cX5_tallAt 10 = .ok (.if_icmp .lt 5, 3) := (op_161 nb_dX5_tallAt_0.2.2.2.2.2.2.1).trans rfl
theorem dX5_tallAt_13 : decode cX5_tallAt 13 = .ok (.iconst 0, 1) := op_3 nb_dX5_tallAt_0.2.2.2.2.2.2.2.1
theorem dX5_tallAt_14 : decode cX5_tallAt 14 = .ok (.ireturn, 1) := op_172 nb_dX5_tallAt_0.2.2.2.2.2.2.2.2.1
theorem dX5_tallAt_15 : decode cX5_tallAt 15 = .ok (.iload_n 3, 1) := op_29 nb_dX5_tallAt_0.2.2.2.2.2.2.2.2.2.1
theorem dX5_tallAt_16 : decode cX5_tallAt 16 = .ok (.iconst 4, 1) := op_7 nb_dX5_tallAt_0.2.2.2.2.2.2.2.2.2.2.1
set_option maxRecDepth 100000 in
theorem dX5_tallAt_17 : decode cX5_tallAt 17 = .ok (.if_icmp .ge 17, 3) := (op_162 nb_dX5_tallAt_0.2.2.2.2.2.2.2.2.2.2.2.1).trans rfl
theorem nb_dX5_tallAt_20 : bls_w cX5_tallAt [(20, [42]), (21, [180, 0, 33]), (24, [28]), (25, [16, 8]), (27, [104]), (28, [27]), (29, [96]), (30, [46]), (31, [167, 0, 14]), (34, [42]), (35, [180, 0, 33]), (38, [27])] := bls_of (by decide +kernel)
theorem dX5_tallAt_20 : decode cX5_tallAt 20 = .ok (.aload_n 0, 1) := op_42 nb_dX5_tallAt_20.1
set_option maxRecDepth 100000 in
theorem dX5_tallAt_21 : decode cX5_tallAt 21 = .ok (.getfield 33, 3) := (op_180 nb_dX5_tallAt_20.2.1).trans rfl
theorem dX5_tallAt_24 : decode cX5_tallAt 24 = .ok (.iload_n 2, 1) := op_28 nb_dX5_tallAt_20.2.2.1
set_option maxRecDepth 100000 in
theorem dX5_tallAt_25 : decode cX5_tallAt 25 = .ok (.bipush 8, 2) := (op_16 nb_dX5_tallAt_20.2.2.2.1).trans rfl
theorem dX5_tallAt_27 : decode cX5_tallAt 27 = .ok (.imul, 1) := op_104 nb_dX5_tallAt_20.2.2.2.2.1
theorem dX5_tallAt_28 : decode cX5_tallAt 28 = .ok (.iload_n 1, 1) := op_27 nb_dX5_tallAt_20.2.2.2.2.2.1
theorem dX5_tallAt_29 : decode cX5_tallAt 29 = .ok (.iadd, 1) := op_96 nb_dX5_tallAt_20.2.2.2.2.2.2.1
theorem dX5_tallAt_30 : decode cX5_tallAt 30 = .ok (.iaload, 1) := op_46 nb_dX5_tallAt_20.2.2.2.2.2.2.2.1
set_option maxRecDepth 100000 in
theorem dX5_tallAt_31 : decode cX5_tallAt 31 = .ok (.goto 14, 3) := (op_167 nb_dX5_tallAt_20.2.2.2.2.2.2.2.2.1).trans rfl
theorem dX5_tallAt_34 : decode cX5_tallAt 34 = .ok (.aload_n 0, 1) := op_42 nb_dX5_tallAt_20.2.2.2.2.2.2.2.2.2.1
set_option maxRecDepth 100000 in
theorem dX5_tallAt_35 : decode cX5_tallAt 35 = .ok (.getfield 33, 3) := (op_180 nb_dX5_tallAt_20.2.2.2.2.2.2.2.2.2.2.1).trans rfl
theorem dX5_tallAt_38 : decode cX5_tallAt 38 = .ok (.iload_n 1, 1) := op_27 nb_dX5_tallAt_20.2.2.2.2.2.2.2.2.2.2.2.1
theorem nb_dX5_tallAt_39 : bls_w cX5_tallAt [(39, [16, 8]), (41, [104]), (42, [28]), (43, [96]), (44, [46]), (45, [172])] := bls_of (by decide +kernel)
set_option maxRecDepth 100000 in
theorem dX5_tallAt_39 : decode cX5_tallAt 39 = .ok (.bipush 8, 2) := (op_16 nb_dX5_tallAt_39.1).trans rfl
theorem dX5_tallAt_41 : decode cX5_tallAt 41 = .ok (.imul, 1) := op_104 nb_dX5_tallAt_39.2.1
theorem dX5_tallAt_42 : decode cX5_tallAt 42 = .ok (.iload_n 2, 1) := op_28 nb_dX5_tallAt_39.2.2.1
theorem dX5_tallAt_43 : decode cX5_tallAt 43 = .ok (.iadd, 1) := op_96 nb_dX5_tallAt_39.2.2.2.1
theorem dX5_tallAt_44 : decode cX5_tallAt 44 = .ok (.iaload, 1) := op_46 nb_dX5_tallAt_39.2.2.2.2.1
theorem dX5_tallAt_45 : decode cX5_tallAt 45 = .ok (.ireturn, 1) := op_172 nb_dX5_tallAt_39.2.2.2.2.2.1
def fX5_tallAt (N : Nat) (x1 : Int32) (x2 : Int32) (x3 : Int32) (v_high : Int32) (v_wide : Int32) (v_tall : List Int32) : Option (Int32) :=
    if x1 < 0 then
    (some ((0 : Int32)))
    else (mm_bd1 (fX5_span N x3 v_high v_wide) (fun (r_2 : Int32) =>
    if x1 < r_2 then
    (if (4 : Int32) ≤ x3 then
    (mm_ck (mm_inb ((x1 * (8 : Int32)) + x2) v_tall.length) (some ((mm_ig v_tall ((x1 * (8 : Int32)) + x2)))))
    else (mm_ck (mm_inb ((x2 * (8 : Int32)) + x1) v_tall.length) (some ((mm_ig v_tall ((x2 * (8 : Int32)) + x1))))))
    else (some ((0 : Int32)))))

set_option maxHeartbeats 4000000 in
set_option maxRecDepth 100000 in
theorem ctX5_tallAt {l : Launch} {D : va_G} {cI cL cS cH : ClassId} {a : Nat → Nat} {x1 : Int32} {x2 : Int32} {x3 : Int32} {v_rows : Int32} {v_cols : Int32} {v_high : Int32} {v_wide : Int32} {v_folds : Int32} {v_wrong : Int32} {v_more : Int32} {v_rowOf : List Int32} {v_colOf : List Int32} {v_below : List Int32} {v_face : List Int32} {v_worn : List Int32} {v_last : List Int32} {v_bend : List Int32} {v_tall : List Int32} {r : Int32} {N d : Nat} (hd : 2 ≤ d) (hf : fX5_tallAt N x1 x2 x3 v_high v_wide v_tall = some r) : mm_Ct l yX5_tallAt cX5_tallAt 4 (some .int) d D (mm_T cI cL cS cH) [.ref (a 0), .int x1, .int x2, .int x3] (wd_X5 cI cL cS cH a v_rows v_cols v_high v_wide v_folds v_wrong v_more v_rowOf v_colOf v_below v_face v_worn v_last v_bend v_tall) (wd_X5 cI cL cS cH a v_rows v_cols v_high v_wide v_folds v_wrong v_more v_rowOf v_colOf v_below v_face v_worn v_last v_bend v_tall) (some (.int r)) := by
  refine mm_of (by decide) (Nat.le_of_ble_eq_true rfl) ?_
  intro p e s m args below meth c A H locs ls C0 hP hD hA hS hl
  have C0 : mm_Cx p s m args meth c RX5 cX5_tallAt 4 (some .int) D (mm_T cI cL cS cH) A := C0
  obtain ⟨hx, hb, hml, hown, hts, hr, hlocks, hK, hSt⟩ := id C0
  have hl : lv_has ls 4 [(0, .ref (a 0)), (1, .int x1), (2, .int x2), (3, .int x3)] := hl
  unfold fX5_tallAt at hf
  refine lv_iload_n hx hb dX5_tallAt_0 rfl (lv_at hl 1 rfl) ?_
  refine lv_if_lt (tgt := 13) hx hb dX5_tallAt_1 (by decide) (fun c_1 => ?_) (fun c_1 => ?_)
  · have hf := mm_ip hf c_1
    refine lv_iconst (v := 0) hx hb dX5_tallAt_13 (by decide) ?_
    obtain rfl := mm_inj1 hf
    exact mm_iret C0 hP hD hS dX5_tallAt_14
  · have hf := mm_in hf c_1
    refine lv_iload_n hx hb dX5_tallAt_4 rfl (lv_at hl 1 rfl) ?_
    refine lv_aload_n hx hb dX5_tallAt_5 rfl (lv_at hl 0 rfl) ?_
    refine lv_iload_n hx hb dX5_tallAt_6 rfl (lv_at hl 3 rfl) ?_
    obtain ⟨r_2, hc_3, hf⟩ := mm_bd1s hf
    refine mm_callVF (q0 := 0) (ci := 5) (rest := [.int x1]) C0 lk_X5_88 (ctX5_span (a := a) (d := d - 1) (by omega) hc_3) (by omega) rfl hl.1 rfl (mm_cat rfl) dX5_tallAt_7 hP hD hA hS rfl rfl (fun H locs hP hD hS => ?_)
    refine W.eq (g2 := F0 m 10 ls [.int r_2, .int x1]) rfl ?_
    refine lv_icmp_lt (tgt := 15) hx hb dX5_tallAt_10 (by decide) (fun c_4 => ?_) (fun c_4 => ?_)
    · have hf := mm_ip hf c_4
      refine lv_iload_n hx hb dX5_tallAt_15 rfl (lv_at hl 3 rfl) ?_
      refine lv_iconst (v := 4) hx hb dX5_tallAt_16 (by decide) ?_
      refine lv_icmp_ge (tgt := 34) hx hb dX5_tallAt_17 (by decide) (fun c_5 => ?_) (fun c_5 => ?_)
      · have hf := mm_ip hf c_5
        refine lv_aload_n hx hb dX5_tallAt_34 rfl (lv_at hl 0 rfl) ?_
        refine mm_get C0 hP iw_X5 0 rfl rfl 14 (by decide) fl_X5_33 rfl dX5_tallAt_35 ?_
        refine lv_iload_n hx hb dX5_tallAt_38 rfl (lv_at hl 1 rfl) ?_
        refine lv_bipush (v := 8) hx hb dX5_tallAt_39 (by decide) ?_
        refine lv_imul hx hb dX5_tallAt_41 ?_
        refine lv_iload_n hx hb dX5_tallAt_42 rfl (lv_at hl 2 rfl) ?_
        refine lv_iadd hx hb dX5_tallAt_43 ?_
        obtain ⟨h_6, hf⟩ := mm_cks hf
        refine mm_iald C0 hP 8 rfl h_6 dX5_tallAt_44 ?_
        obtain rfl := mm_inj1 hf
        exact mm_iret C0 hP hD hS dX5_tallAt_45
      · have hf := mm_in hf c_5
        refine lv_aload_n hx hb dX5_tallAt_20 rfl (lv_at hl 0 rfl) ?_
        refine mm_get C0 hP iw_X5 0 rfl rfl 14 (by decide) fl_X5_33 rfl dX5_tallAt_21 ?_
        refine lv_iload_n hx hb dX5_tallAt_24 rfl (lv_at hl 2 rfl) ?_
        refine lv_bipush (v := 8) hx hb dX5_tallAt_25 (by decide) ?_
        refine lv_imul hx hb dX5_tallAt_27 ?_
        refine lv_iload_n hx hb dX5_tallAt_28 rfl (lv_at hl 1 rfl) ?_
        refine lv_iadd hx hb dX5_tallAt_29 ?_
        obtain ⟨h_7, hf⟩ := mm_cks hf
        refine mm_iald C0 hP 8 rfl h_7 dX5_tallAt_30 ?_
        refine lv_goto (tgt := 45) hx hb dX5_tallAt_31 (by decide) ?_
        obtain rfl := mm_inj1 hf
        exact mm_iret C0 hP hD hS dX5_tallAt_45
    · have hf := mm_in hf c_4
      refine lv_iconst (v := 0) hx hb dX5_tallAt_13 (by decide) ?_
      obtain rfl := mm_inj1 hf
      exact mm_iret C0 hP hD hS dX5_tallAt_14

theorem nb_dX5_turn_0 : bls_w cX5_turn [(0, [42]), (1, [182, 0, 159]), (4, [42]), (5, [28]), (6, [182, 0, 88]), (9, [62]), (10, [28]), (11, [184, 0, 135]), (14, [153, 0, 7]), (17, [27]), (18, [167, 0, 12]), (21, [3])] := bls_of (by decide +kernel)
theorem dX5_turn_0 : decode cX5_turn 0 = .ok (.aload_n 0, 1) := op_42 nb_dX5_turn_0.1
set_option maxRecDepth 100000 in
theorem dX5_turn_1 : decode cX5_turn 1 = .ok (.invokevirtual 159, 3) := (op_182 nb_dX5_turn_0.2.1).trans rfl
theorem dX5_turn_4 : decode cX5_turn 4 = .ok (.aload_n 0, 1) := op_42 nb_dX5_turn_0.2.2.1
theorem dX5_turn_5 : decode cX5_turn 5 = .ok (.iload_n 2, 1) := op_28 nb_dX5_turn_0.2.2.2.1
set_option maxRecDepth 100000 in
theorem dX5_turn_6 : decode cX5_turn 6 = .ok (.invokevirtual 88, 3) := (op_182 nb_dX5_turn_0.2.2.2.2.1).trans rfl
theorem dX5_turn_9 : decode cX5_turn 9 = .ok (.istore_n 3, 1) := op_62 nb_dX5_turn_0.2.2.2.2.2.1
theorem dX5_turn_10 : decode cX5_turn 10 = .ok (.iload_n 2, 1) := op_28 nb_dX5_turn_0.2.2.2.2.2.2.1
set_option maxRecDepth 100000 in
theorem dX5_turn_11 : decode cX5_turn 11 = .ok (.invokestatic 135, 3) := (op_184 nb_dX5_turn_0.2.2.2.2.2.2.2.1).trans rfl
set_option maxRecDepth 100000 in
theorem dX5_turn_14 : decode cX5_turn 14 = .ok (.ifCond .eq 7, 3) := (op_153 nb_dX5_turn_0.2.2.2.2.2.2.2.2.1).trans rfl
theorem dX5_turn_17 : decode cX5_turn 17 = .ok (.iload_n 1, 1) := op_27 nb_dX5_turn_0.2.2.2.2.2.2.2.2.2.1
set_option maxRecDepth 100000 in
theorem dX5_turn_18 : decode cX5_turn 18 = .ok (.goto 12, 3) := (op_167 nb_dX5_turn_0.2.2.2.2.2.2.2.2.2.2.1).trans rfl
theorem dX5_turn_21 : decode cX5_turn 21 = .ok (.iconst 0, 1) := op_3 nb_dX5_turn_0.2.2.2.2.2.2.2.2.2.2.2.1
theorem nb_dX5_turn_22 : bls_w cX5_turn [(22, [5]), (23, [27]), (24, [104]), (25, [29]), (26, [100]), (27, [184, 0, 156]), (30, [54, 4]), (32, [3]), (33, [54, 5]), (35, [21, 5]), (37, [42]), (38, [182, 0, 84])] := bls_of (by decide +kernel)
theorem dX5_turn_22 : decode cX5_turn 22 = .ok (.iconst 2, 1) := op_5 nb_dX5_turn_22.1
theorem dX5_turn_23 : decode cX5_turn 23 = .ok (.iload_n 1, 1) := op_27 nb_dX5_turn_22.2.1
theorem dX5_turn_24 : decode cX5_turn 24 = .ok (.imul, 1) := op_104 nb_dX5_turn_22.2.2.1
theorem dX5_turn_25 : decode cX5_turn 25 = .ok (.iload_n 3, 1) := op_29 nb_dX5_turn_22.2.2.2.1
theorem dX5_turn_26 : decode cX5_turn 26 = .ok (.isub, 1) := op_100 nb_dX5_turn_22.2.2.2.2.1
set_option maxRecDepth 100000 in
theorem dX5_turn_27 : decode cX5_turn 27 = .ok (.invokestatic 156, 3) := (op_184 nb_dX5_turn_22.2.2.2.2.2.1).trans rfl
set_option maxRecDepth 100000 in
theorem dX5_turn_30 : decode cX5_turn 30 = .ok (.istore 4, 2) := (op_54 nb_dX5_turn_22.2.2.2.2.2.2.1).trans rfl
theorem dX5_turn_32 : decode cX5_turn 32 = .ok (.iconst 0, 1) := op_3 nb_dX5_turn_22.2.2.2.2.2.2.2.1
set_option maxRecDepth 100000 in
theorem dX5_turn_33 : decode cX5_turn 33 = .ok (.istore 5, 2) := (op_54 nb_dX5_turn_22.2.2.2.2.2.2.2.2.1).trans rfl
set_option maxRecDepth 100000 in
theorem dX5_turn_35 : decode cX5_turn 35 = .ok (.iload 5, 2) := (op_21 nb_dX5_turn_22.2.2.2.2.2.2.2.2.2.1).trans rfl
theorem dX5_turn_37 : decode cX5_turn 37 = .ok (.aload_n 0, 1) := op_42 nb_dX5_turn_22.2.2.2.2.2.2.2.2.2.2.1
set_option maxRecDepth 100000 in
theorem dX5_turn_38 : decode cX5_turn 38 = .ok (.invokevirtual 84, 3) := (op_182 nb_dX5_turn_22.2.2.2.2.2.2.2.2.2.2.2.1).trans rfl
theorem nb_dX5_turn_41 : bls_w cX5_turn [(41, [162, 0, 165]), (44, [42]), (45, [21, 5]), (47, [28]), (48, [182, 0, 141]), (51, [54, 6]), (53, [5]), (54, [27]), (55, [104]), (56, [4]), (57, [100]), (58, [21, 6])] := bls_of (by decide +kernel)
set_option maxRecDepth 100000 in
theorem dX5_turn_41 : decode cX5_turn 41 = .ok (.if_icmp .ge 165, 3) := (op_162 nb_dX5_turn_41.1).trans rfl
theorem dX5_turn_44 : decode cX5_turn 44 = .ok (.aload_n 0, 1) := op_42 nb_dX5_turn_41.2.1
set_option maxRecDepth 100000 in
theorem dX5_turn_45 : decode cX5_turn 45 = .ok (.iload 5, 2) := (op_21 nb_dX5_turn_41.2.2.1).trans rfl
theorem dX5_turn_47 : decode cX5_turn 47 = .ok (.iload_n 2, 1) := op_28 nb_dX5_turn_41.2.2.2.1
set_option maxRecDepth 100000 in
theorem dX5_turn_48 : decode cX5_turn 48 = .ok (.invokevirtual 141, 3) := (op_182 nb_dX5_turn_41.2.2.2.2.1).trans rfl
set_option maxRecDepth 100000 in
theorem dX5_turn_51 : decode cX5_turn 51 = .ok (.istore 6, 2) := (op_54 nb_dX5_turn_41.2.2.2.2.2.1).trans rfl
theorem dX5_turn_53 : decode cX5_turn 53 = .ok (.iconst 2, 1) := op_5 nb_dX5_turn_41.2.2.2.2.2.2.1
theorem dX5_turn_54 : decode cX5_turn 54 = .ok (.iload_n 1, 1) := op_27 nb_dX5_turn_41.2.2.2.2.2.2.2.1
theorem dX5_turn_55 : decode cX5_turn 55 = .ok (.imul, 1) := op_104 nb_dX5_turn_41.2.2.2.2.2.2.2.2.1
theorem dX5_turn_56 : decode cX5_turn 56 = .ok (.iconst 1, 1) := op_4 nb_dX5_turn_41.2.2.2.2.2.2.2.2.2.1
theorem dX5_turn_57 : decode cX5_turn 57 = .ok (.isub, 1) := op_100 nb_dX5_turn_41.2.2.2.2.2.2.2.2.2.2.1
set_option maxRecDepth 100000 in
theorem dX5_turn_58 : decode cX5_turn 58 = .ok (.iload 6, 2) := (op_21 nb_dX5_turn_41.2.2.2.2.2.2.2.2.2.2.2.1).trans rfl
theorem nb_dX5_turn_60 : bls_w cX5_turn [(60, [100]), (61, [54, 7]), (63, [42]), (64, [21, 7]), (66, [42]), (67, [21, 5]), (69, [28]), (70, [182, 0, 138]), (73, [28]), (74, [182, 0, 162]), (77, [54, 8]), (79, [21, 6])] := bls_of (by decide +kernel)
theorem dX5_turn_60 : decode cX5_turn 60 = .ok (.isub, 1) := op_100 nb_dX5_turn_60.1
set_option maxRecDepth 100000 in
theorem dX5_turn_61 : decode cX5_turn 61 = .ok (.istore 7, 2) := (op_54 nb_dX5_turn_60.2.1).trans rfl
theorem dX5_turn_63 : decode cX5_turn 63 = .ok (.aload_n 0, 1) := op_42 nb_dX5_turn_60.2.2.1
set_option maxRecDepth 100000 in
theorem dX5_turn_64 : decode cX5_turn 64 = .ok (.iload 7, 2) := (op_21 nb_dX5_turn_60.2.2.2.1).trans rfl
theorem dX5_turn_66 : decode cX5_turn 66 = .ok (.aload_n 0, 1) := op_42 nb_dX5_turn_60.2.2.2.2.1
set_option maxRecDepth 100000 in
theorem dX5_turn_67 : decode cX5_turn 67 = .ok (.iload 5, 2) := (op_21 nb_dX5_turn_60.2.2.2.2.2.1).trans rfl
theorem dX5_turn_69 : decode cX5_turn 69 = .ok (.iload_n 2, 1) := op_28 nb_dX5_turn_60.2.2.2.2.2.2.1
set_option maxRecDepth 100000 in
theorem dX5_turn_70 : decode cX5_turn 70 = .ok (.invokevirtual 138, 3) := (op_182 nb_dX5_turn_60.2.2.2.2.2.2.2.1).trans rfl
theorem dX5_turn_73 : decode cX5_turn 73 = .ok (.iload_n 2, 1) := op_28 nb_dX5_turn_60.2.2.2.2.2.2.2.2.1
set_option maxRecDepth 100000 in
theorem dX5_turn_74 : decode cX5_turn 74 = .ok (.invokevirtual 162, 3) := (op_182 nb_dX5_turn_60.2.2.2.2.2.2.2.2.2.1).trans rfl
set_option maxRecDepth 100000 in
theorem dX5_turn_77 : decode cX5_turn 77 = .ok (.istore 8, 2) := (op_54 nb_dX5_turn_60.2.2.2.2.2.2.2.2.2.2.1).trans rfl
set_option maxRecDepth 100000 in
theorem dX5_turn_79 : decode cX5_turn 79 = .ok (.iload 6, 2) := (op_21 nb_dX5_turn_60.2.2.2.2.2.2.2.2.2.2.2.1).trans rfl
theorem nb_dX5_turn_81 : bls_w cX5_turn [(81, [27]), (82, [162, 0, 7]), (85, [4]), (86, [167, 0, 4]), (89, [3]), (90, [28]), (91, [184, 0, 135]), (94, [160, 0, 75]), (97, [42]), (98, [21, 6]), (100, [42]), (101, [21, 5])] := bls_of (by decide +kernel)
theorem dX5_turn_81 : decode cX5_turn 81 = .ok (.iload_n 1, 1) := op_27 nb_dX5_turn_81.1
set_option maxRecDepth 100000 in
theorem dX5_turn_82 : decode cX5_turn 82 = .ok (.if_icmp .ge 7, 3) := (op_162 nb_dX5_turn_81.2.1).trans rfl
theorem dX5_turn_85 : decode cX5_turn 85 = .ok (.iconst 1, 1) := op_4 nb_dX5_turn_81.2.2.1
set_option maxRecDepth 100000 in
theorem dX5_turn_86 : decode cX5_turn 86 = .ok (.goto 4, 3) := (op_167 nb_dX5_turn_81.2.2.2.1).trans rfl
theorem dX5_turn_89 : decode cX5_turn 89 = .ok (.iconst 0, 1) := op_3 nb_dX5_turn_81.2.2.2.2.1
theorem dX5_turn_90 : decode cX5_turn 90 = .ok (.iload_n 2, 1) := op_28 nb_dX5_turn_81.2.2.2.2.2.1
set_option maxRecDepth 100000 in
theorem dX5_turn_91 : decode cX5_turn 91 = .ok (.invokestatic 135, 3) := (op_184 nb_dX5_turn_81.2.2.2.2.2.2.1).trans rfl
set_option maxRecDepth 100000 in
theorem dX5_turn_94 : decode cX5_turn 94 = .ok (.if_icmp .ne 75, 3) := (op_160 nb_dX5_turn_81.2.2.2.2.2.2.2.1).trans rfl
theorem dX5_turn_97 : decode cX5_turn 97 = .ok (.aload_n 0, 1) := op_42 nb_dX5_turn_81.2.2.2.2.2.2.2.2.1
set_option maxRecDepth 100000 in
theorem dX5_turn_98 : decode cX5_turn 98 = .ok (.iload 6, 2) := (op_21 nb_dX5_turn_81.2.2.2.2.2.2.2.2.2.1).trans rfl
theorem dX5_turn_100 : decode cX5_turn 100 = .ok (.aload_n 0, 1) := op_42 nb_dX5_turn_81.2.2.2.2.2.2.2.2.2.2.1
set_option maxRecDepth 100000 in
theorem dX5_turn_101 : decode cX5_turn 101 = .ok (.iload 5, 2) := (op_21 nb_dX5_turn_81.2.2.2.2.2.2.2.2.2.2.2.1).trans rfl
theorem nb_dX5_turn_103 : bls_w cX5_turn [(103, [28]), (104, [182, 0, 138]), (107, [28]), (108, [182, 0, 162]), (111, [54, 9]), (113, [42]), (114, [180, 0, 18]), (117, [21, 5]), (119, [21, 9]), (121, [4]), (122, [100]), (123, [42])] := bls_of (by decide +kernel)
theorem dX5_turn_103 : decode cX5_turn 103 = .ok (.iload_n 2, 1) := op_28 nb_dX5_turn_103.1
set_option maxRecDepth 100000 in
theorem dX5_turn_104 : decode cX5_turn 104 = .ok (.invokevirtual 138, 3) := (op_182 nb_dX5_turn_103.2.1).trans rfl
theorem dX5_turn_107 : decode cX5_turn 107 = .ok (.iload_n 2, 1) := op_28 nb_dX5_turn_103.2.2.1
set_option maxRecDepth 100000 in
theorem dX5_turn_108 : decode cX5_turn 108 = .ok (.invokevirtual 162, 3) := (op_182 nb_dX5_turn_103.2.2.2.1).trans rfl
set_option maxRecDepth 100000 in
theorem dX5_turn_111 : decode cX5_turn 111 = .ok (.istore 9, 2) := (op_54 nb_dX5_turn_103.2.2.2.2.1).trans rfl
theorem dX5_turn_113 : decode cX5_turn 113 = .ok (.aload_n 0, 1) := op_42 nb_dX5_turn_103.2.2.2.2.2.1
set_option maxRecDepth 100000 in
theorem dX5_turn_114 : decode cX5_turn 114 = .ok (.getfield 18, 3) := (op_180 nb_dX5_turn_103.2.2.2.2.2.2.1).trans rfl
set_option maxRecDepth 100000 in
theorem dX5_turn_117 : decode cX5_turn 117 = .ok (.iload 5, 2) := (op_21 nb_dX5_turn_103.2.2.2.2.2.2.2.1).trans rfl
set_option maxRecDepth 100000 in
theorem dX5_turn_119 : decode cX5_turn 119 = .ok (.iload 9, 2) := (op_21 nb_dX5_turn_103.2.2.2.2.2.2.2.2.1).trans rfl
theorem dX5_turn_121 : decode cX5_turn 121 = .ok (.iconst 1, 1) := op_4 nb_dX5_turn_103.2.2.2.2.2.2.2.2.2.1
theorem dX5_turn_122 : decode cX5_turn 122 = .ok (.isub, 1) := op_100 nb_dX5_turn_103.2.2.2.2.2.2.2.2.2.2.1
theorem dX5_turn_123 : decode cX5_turn 123 = .ok (.aload_n 0, 1) := op_42 nb_dX5_turn_103.2.2.2.2.2.2.2.2.2.2.2.1
theorem nb_dX5_turn_124 : bls_w cX5_turn [(124, [180, 0, 18]), (127, [21, 5]), (129, [46]), (130, [100]), (131, [28]), (132, [184, 0, 147]), (135, [153, 0, 8]), (138, [21, 8]), (140, [167, 0, 4]), (143, [3]), (144, [96]), (145, [79])] := bls_of (by decide +kernel)
set_option maxRecDepth 100000 in
theorem dX5_turn_124 : decode cX5_turn 124 = .ok (.getfield 18, 3) := (op_180 nb_dX5_turn_124.1).trans rfl
set_option maxRecDepth 100000 in
theorem dX5_turn_127 : decode cX5_turn 127 = .ok (.iload 5, 2) := (op_21 nb_dX5_turn_124.2.1).trans rfl
theorem dX5_turn_129 : decode cX5_turn 129 = .ok (.iaload, 1) := op_46 nb_dX5_turn_124.2.2.1
theorem dX5_turn_130 : decode cX5_turn 130 = .ok (.isub, 1) := op_100 nb_dX5_turn_124.2.2.2.1
theorem dX5_turn_131 : decode cX5_turn 131 = .ok (.iload_n 2, 1) := op_28 nb_dX5_turn_124.2.2.2.2.1
set_option maxRecDepth 100000 in
theorem dX5_turn_132 : decode cX5_turn 132 = .ok (.invokestatic 147, 3) := (op_184 nb_dX5_turn_124.2.2.2.2.2.1).trans rfl
set_option maxRecDepth 100000 in
theorem dX5_turn_135 : decode cX5_turn 135 = .ok (.ifCond .eq 8, 3) := (op_153 nb_dX5_turn_124.2.2.2.2.2.2.1).trans rfl
set_option maxRecDepth 100000 in
theorem dX5_turn_138 : decode cX5_turn 138 = .ok (.iload 8, 2) := (op_21 nb_dX5_turn_124.2.2.2.2.2.2.2.1).trans rfl
set_option maxRecDepth 100000 in
theorem dX5_turn_140 : decode cX5_turn 140 = .ok (.goto 4, 3) := (op_167 nb_dX5_turn_124.2.2.2.2.2.2.2.2.1).trans rfl
theorem dX5_turn_143 : decode cX5_turn 143 = .ok (.iconst 0, 1) := op_3 nb_dX5_turn_124.2.2.2.2.2.2.2.2.2.1
theorem dX5_turn_144 : decode cX5_turn 144 = .ok (.iadd, 1) := op_96 nb_dX5_turn_124.2.2.2.2.2.2.2.2.2.2.1
theorem dX5_turn_145 : decode cX5_turn 145 = .ok (.iastore, 1) := op_79 nb_dX5_turn_124.2.2.2.2.2.2.2.2.2.2.2.1
theorem nb_dX5_turn_146 : bls_w cX5_turn [(146, [42]), (147, [180, 0, 21]), (150, [21, 5]), (152, [4]), (153, [42]), (154, [180, 0, 21]), (157, [21, 5]), (159, [46]), (160, [100]), (161, [79]), (162, [21, 7]), (164, [54, 6])] := bls_of (by decide +kernel)
theorem dX5_turn_146 : decode cX5_turn 146 = .ok (.aload_n 0, 1) := op_42 nb_dX5_turn_146.1
set_option maxRecDepth 100000 in
theorem dX5_turn_147 : decode cX5_turn 147 = .ok (.getfield 21, 3) := (op_180 nb_dX5_turn_146.2.1).trans rfl
set_option maxRecDepth 100000 in
theorem dX5_turn_150 : decode cX5_turn 150 = .ok (.iload 5, 2) := (op_21 nb_dX5_turn_146.2.2.1).trans rfl
theorem dX5_turn_152 : decode cX5_turn 152 = .ok (.iconst 1, 1) := op_4 nb_dX5_turn_146.2.2.2.1
theorem dX5_turn_153 : decode cX5_turn 153 = .ok (.aload_n 0, 1) := op_42 nb_dX5_turn_146.2.2.2.2.1
set_option maxRecDepth 100000 in
theorem dX5_turn_154 : decode cX5_turn 154 = .ok (.getfield 21, 3) := (op_180 nb_dX5_turn_146.2.2.2.2.2.1).trans rfl
set_option maxRecDepth 100000 in
theorem dX5_turn_157 : decode cX5_turn 157 = .ok (.iload 5, 2) := (op_21 nb_dX5_turn_146.2.2.2.2.2.2.1).trans rfl
theorem dX5_turn_159 : decode cX5_turn 159 = .ok (.iaload, 1) := op_46 nb_dX5_turn_146.2.2.2.2.2.2.2.1
theorem dX5_turn_160 : decode cX5_turn 160 = .ok (.isub, 1) := op_100 nb_dX5_turn_146.2.2.2.2.2.2.2.2.1
theorem dX5_turn_161 : decode cX5_turn 161 = .ok (.iastore, 1) := op_79 nb_dX5_turn_146.2.2.2.2.2.2.2.2.2.1
set_option maxRecDepth 100000 in
theorem dX5_turn_162 : decode cX5_turn 162 = .ok (.iload 7, 2) := (op_21 nb_dX5_turn_146.2.2.2.2.2.2.2.2.2.2.1).trans rfl
set_option maxRecDepth 100000 in
theorem dX5_turn_164 : decode cX5_turn 164 = .ok (.istore 6, 2) := (op_54 nb_dX5_turn_146.2.2.2.2.2.2.2.2.2.2.2.1).trans rfl
theorem nb_dX5_turn_166 : bls_w cX5_turn [(166, [167, 0, 22]), (169, [28]), (170, [184, 0, 147]), (173, [154, 0, 15]), (176, [42]), (177, [180, 0, 18]), (180, [21, 5]), (182, [92]), (183, [46]), (184, [21, 8]), (186, [96]), (187, [79])] := bls_of (by decide +kernel)
set_option maxRecDepth 100000 in
theorem dX5_turn_166 : decode cX5_turn 166 = .ok (.goto 22, 3) := (op_167 nb_dX5_turn_166.1).trans rfl
theorem dX5_turn_169 : decode cX5_turn 169 = .ok (.iload_n 2, 1) := op_28 nb_dX5_turn_166.2.1
set_option maxRecDepth 100000 in
theorem dX5_turn_170 : decode cX5_turn 170 = .ok (.invokestatic 147, 3) := (op_184 nb_dX5_turn_166.2.2.1).trans rfl
set_option maxRecDepth 100000 in
theorem dX5_turn_173 : decode cX5_turn 173 = .ok (.ifCond .ne 15, 3) := (op_154 nb_dX5_turn_166.2.2.2.1).trans rfl
theorem dX5_turn_176 : decode cX5_turn 176 = .ok (.aload_n 0, 1) := op_42 nb_dX5_turn_166.2.2.2.2.1
set_option maxRecDepth 100000 in
theorem dX5_turn_177 : decode cX5_turn 177 = .ok (.getfield 18, 3) := (op_180 nb_dX5_turn_166.2.2.2.2.2.1).trans rfl
set_option maxRecDepth 100000 in
theorem dX5_turn_180 : decode cX5_turn 180 = .ok (.iload 5, 2) := (op_21 nb_dX5_turn_166.2.2.2.2.2.2.1).trans rfl
theorem dX5_turn_182 : decode cX5_turn 182 = .ok (.dup2, 1) := op_92 nb_dX5_turn_166.2.2.2.2.2.2.2.1
theorem dX5_turn_183 : decode cX5_turn 183 = .ok (.iaload, 1) := op_46 nb_dX5_turn_166.2.2.2.2.2.2.2.2.1
set_option maxRecDepth 100000 in
theorem dX5_turn_184 : decode cX5_turn 184 = .ok (.iload 8, 2) := (op_21 nb_dX5_turn_166.2.2.2.2.2.2.2.2.2.1).trans rfl
theorem dX5_turn_186 : decode cX5_turn 186 = .ok (.iadd, 1) := op_96 nb_dX5_turn_166.2.2.2.2.2.2.2.2.2.2.1
theorem dX5_turn_187 : decode cX5_turn 187 = .ok (.iastore, 1) := op_79 nb_dX5_turn_166.2.2.2.2.2.2.2.2.2.2.2.1
theorem nb_dX5_turn_188 : bls_w cX5_turn [(188, [42]), (189, [21, 5]), (191, [28]), (192, [21, 6]), (194, [21, 4]), (196, [100]), (197, [182, 0, 165]), (200, [132, 5, 1]), (203, [167, 255, 88]), (206, [42]), (207, [28]), (208, [42])] := bls_of (by decide +kernel)
theorem dX5_turn_188 : decode cX5_turn 188 = .ok (.aload_n 0, 1) := op_42 nb_dX5_turn_188.1
set_option maxRecDepth 100000 in
theorem dX5_turn_189 : decode cX5_turn 189 = .ok (.iload 5, 2) := (op_21 nb_dX5_turn_188.2.1).trans rfl
theorem dX5_turn_191 : decode cX5_turn 191 = .ok (.iload_n 2, 1) := op_28 nb_dX5_turn_188.2.2.1
set_option maxRecDepth 100000 in
theorem dX5_turn_192 : decode cX5_turn 192 = .ok (.iload 6, 2) := (op_21 nb_dX5_turn_188.2.2.2.1).trans rfl
set_option maxRecDepth 100000 in
theorem dX5_turn_194 : decode cX5_turn 194 = .ok (.iload 4, 2) := (op_21 nb_dX5_turn_188.2.2.2.2.1).trans rfl
theorem dX5_turn_196 : decode cX5_turn 196 = .ok (.isub, 1) := op_100 nb_dX5_turn_188.2.2.2.2.2.1
set_option maxRecDepth 100000 in
theorem dX5_turn_197 : decode cX5_turn 197 = .ok (.invokevirtual 165, 3) := (op_182 nb_dX5_turn_188.2.2.2.2.2.2.1).trans rfl
set_option maxRecDepth 100000 in
theorem dX5_turn_200 : decode cX5_turn 200 = .ok (.iinc 5 1, 3) := (op_132 nb_dX5_turn_188.2.2.2.2.2.2.2.1).trans rfl
set_option maxRecDepth 100000 in
theorem dX5_turn_203 : decode cX5_turn 203 = .ok (.goto (-168), 3) := (op_167 nb_dX5_turn_188.2.2.2.2.2.2.2.2.1).trans rfl
theorem dX5_turn_206 : decode cX5_turn 206 = .ok (.aload_n 0, 1) := op_42 nb_dX5_turn_188.2.2.2.2.2.2.2.2.2.1
theorem dX5_turn_207 : decode cX5_turn 207 = .ok (.iload_n 2, 1) := op_28 nb_dX5_turn_188.2.2.2.2.2.2.2.2.2.2.1
theorem dX5_turn_208 : decode cX5_turn 208 = .ok (.aload_n 0, 1) := op_42 nb_dX5_turn_188.2.2.2.2.2.2.2.2.2.2.2.1
theorem nb_dX5_turn_209 : bls_w cX5_turn [(209, [27]), (210, [28]), (211, [182, 0, 169]), (214, [182, 0, 172]), (217, [177])] := bls_of (by decide +kernel)
theorem dX5_turn_209 : decode cX5_turn 209 = .ok (.iload_n 1, 1) := op_27 nb_dX5_turn_209.1
theorem dX5_turn_210 : decode cX5_turn 210 = .ok (.iload_n 2, 1) := op_28 nb_dX5_turn_209.2.1
set_option maxRecDepth 100000 in
theorem dX5_turn_211 : decode cX5_turn 211 = .ok (.invokevirtual 169, 3) := (op_182 nb_dX5_turn_209.2.2.1).trans rfl
set_option maxRecDepth 100000 in
theorem dX5_turn_214 : decode cX5_turn 214 = .ok (.invokevirtual 172, 3) := (op_182 nb_dX5_turn_209.2.2.2.1).trans rfl
theorem dX5_turn_217 : decode cX5_turn 217 = .ok (.return_, 1) := op_177 nb_dX5_turn_209.2.2.2.2.1
def fX5_turn_188 (N : Nat) (k_35 : Int32 → Int32 → Int32 → Int32 → Int32 → Int32 → Int32 → Int32 → List Int32 → List Int32 → List Int32 → List Int32 → List Int32 → Option (Int32 × Int32 × List Int32 × List Int32 × List Int32 × List Int32 × List Int32)) (x1 : Int32) (x2 : Int32) (x4 : Int32) (x5 : Int32) (x6 : Int32) (v_rows : Int32) (v_cols : Int32) (v_high : Int32) (v_wide : Int32) (v_rowOf : List Int32) (v_colOf : List Int32) (v_below : List Int32) (v_face : List Int32) (v_tall : List Int32) : Option (Int32 × Int32 × List Int32 × List Int32 × List Int32 × List Int32 × List Int32) :=
    mm_bd2 (fX5_setAlong N x5 x2 (x6 - x4) v_rowOf v_colOf) (fun (w_49 : List Int32) (w_50 : List Int32) =>
    mm_nm (x5 + (1 : Int32)) (fun (y_52 : Int32) =>
    k_35 x1 x2 x4 y_52 v_rows v_cols v_high v_wide w_49 w_50 v_below v_face v_tall))

set_option maxHeartbeats 4000000 in
set_option maxRecDepth 100000 in
theorem tX5_turn_188 {p : Program} {l : Launch} {e : Env} {s : State} {m : MethodId} {args : Array Value} {below : List Frame} {meth : Method} {c : Code} {D : va_G} {cI cL cS cH : ClassId} {A : Nat → Prop} {d : Nat} {a : Nat → Nat} (hd : 3 ≤ d) (C0 : mm_Cx p s m args meth c RX5 cX5_turn 10 none D (mm_T cI cL cS cH) A) (hA : ∀ q, s.heap.size ≤ q → A q) {v_folds : Int32} {v_wrong : Int32} {v_more : Int32} {v_worn : List Int32} {v_last : List Int32} {v_bend : List Int32} {w_high : Int32} {w_wide : Int32} {w_rowOf : List Int32} {w_colOf : List Int32} {w_below : List Int32} {w_face : List Int32} {w_tall : List Int32} (N : Nat) {k_35 : Int32 → Int32 → Int32 → Int32 → Int32 → Int32 → Int32 → Int32 → List Int32 → List Int32 → List Int32 → List Int32 → List Int32 → Option (Int32 × Int32 × List Int32 × List Int32 × List Int32 × List Int32 × List Int32)} (hk_35 : ∀ (x1 : Int32) (x2 : Int32) (x4 : Int32) (x5 : Int32) (v_rows : Int32) (v_cols : Int32) (v_high : Int32) (v_wide : Int32) (v_rowOf : List Int32) (v_colOf : List Int32) (v_below : List Int32) (v_face : List Int32) (v_tall : List Int32) (H : Heap) (locs : List Loc) (ls : Array Slot), k_35 x1 x2 x4 x5 v_rows v_cols v_high v_wide v_rowOf v_colOf v_below v_face v_tall = some (w_high, w_wide, w_rowOf, w_colOf, w_below, w_face, w_tall) → va_P D mm_cl (wd_X5 cI cL cS cH a v_rows v_cols v_high v_wide v_folds v_wrong v_more v_rowOf v_colOf v_below v_face v_worn v_last v_bend v_tall) H → va_D A (wd_X5 cI cL cS cH a v_rows v_cols v_high v_wide v_folds v_wrong v_more v_rowOf v_colOf v_below v_face v_worn v_last v_bend v_tall) → va_S A s.heap H locs → lv_has ls 10 [(0, .ref (a 0)), (1, .int x1), (2, .int x2), (4, .int x4), (5, .int x5)] → W p l e (mm_rr d) s m args below meth c H locs 0 0 (mm_Z below D A (wd_X5 cI cL cS cH a v_rows v_cols w_high w_wide v_folds v_wrong v_more w_rowOf w_colOf w_below w_face v_worn v_last v_bend w_tall) none args s) (F0 m 35 ls [])) : ∀ (x1 : Int32) (x2 : Int32) (x4 : Int32) (x5 : Int32) (x6 : Int32) (v_rows : Int32) (v_cols : Int32) (v_high : Int32) (v_wide : Int32) (v_rowOf : List Int32) (v_colOf : List Int32) (v_below : List Int32) (v_face : List Int32) (v_tall : List Int32) (H : Heap) (locs : List Loc) (ls : Array Slot), fX5_turn_188 N k_35 x1 x2 x4 x5 x6 v_rows v_cols v_high v_wide v_rowOf v_colOf v_below v_face v_tall = some (w_high, w_wide, w_rowOf, w_colOf, w_below, w_face, w_tall) → va_P D mm_cl (wd_X5 cI cL cS cH a v_rows v_cols v_high v_wide v_folds v_wrong v_more v_rowOf v_colOf v_below v_face v_worn v_last v_bend v_tall) H → va_D A (wd_X5 cI cL cS cH a v_rows v_cols v_high v_wide v_folds v_wrong v_more v_rowOf v_colOf v_below v_face v_worn v_last v_bend v_tall) → va_S A s.heap H locs → lv_has ls 10 [(0, .ref (a 0)), (1, .int x1), (2, .int x2), (4, .int x4), (5, .int x5), (6, .int x6)] → W p l e (mm_rr d) s m args below meth c H locs 0 0 (mm_Z below D A (wd_X5 cI cL cS cH a v_rows v_cols w_high w_wide v_folds v_wrong v_more w_rowOf w_colOf w_below w_face v_worn v_last v_bend w_tall) none args s) (F0 m 188 ls []) := by
  obtain ⟨hx, hb, hml, hown, hts, hr, hlocks, hK, hSt⟩ := id C0
  intro x1 x2 x4 x5 x6 v_rows v_cols v_high v_wide v_rowOf v_colOf v_below v_face v_tall H locs ls hf hP hD hS hl
  unfold fX5_turn_188 at hf
  refine lv_aload_n hx hb dX5_turn_188 rfl (lv_at hl 0 rfl) ?_
  refine lv_iload hx hb dX5_turn_189 (lv_at hl 4 rfl) ?_
  refine lv_iload_n hx hb dX5_turn_191 rfl (lv_at hl 2 rfl) ?_
  refine lv_iload hx hb dX5_turn_192 (lv_at hl 5 rfl) ?_
  refine lv_iload hx hb dX5_turn_194 (lv_at hl 3 rfl) ?_
  refine lv_isub hx hb dX5_turn_196 ?_
  obtain ⟨w_49, w_50, hc_51, hf⟩ := mm_bd2s hf
  refine mm_callVF (q0 := 0) (ci := 5) (rest := []) C0 lk_X5_165 (ctX5_setAlong (a := a) (d := d - 1) (by omega) hc_51) (by omega) rfl hl.1 rfl (mm_cat rfl) dX5_turn_197 hP hD hA hS rfl rfl (fun H locs hP hD hS => ?_)
  refine W.eq (g2 := F0 m 200 ls []) rfl ?_
  obtain ⟨y_52, ey_52⟩ : ∃ z : Int32, z = x5 + (1 : Int32) := ⟨_, rfl⟩
  have hf := mm_nms hf ey_52
  refine lv_iinc (v := y_52) (lv' := [(5, .int y_52), (0, .ref (a 0)), (1, .int x1), (2, .int x2), (4, .int x4), (6, .int x6)]) hx hb dX5_turn_200 hl (k := 4) rfl (by rw [ey_52]; rfl) (by decide) rfl (fun ls hl => ?_)
  refine lv_goto (tgt := 35) hx hb dX5_turn_203 (by decide) ?_
  exact hk_35 _ _ _ _ _ _ _ _ _ _ _ _ _ H locs ls hf hP hD hS (lv_sub hl [1, 2, 3, 4, 0] rfl)

def fX5_turn_144 (N : Nat) (k_35 : Int32 → Int32 → Int32 → Int32 → Int32 → Int32 → Int32 → Int32 → List Int32 → List Int32 → List Int32 → List Int32 → List Int32 → Option (Int32 × Int32 × List Int32 × List Int32 × List Int32 × List Int32 × List Int32)) (x1 : Int32) (x2 : Int32) (x4 : Int32) (x5 : Int32) (x7 : Int32) (s0 : Int32) (s1 : Int32) (s2 : Int32) (v_rows : Int32) (v_cols : Int32) (v_high : Int32) (v_wide : Int32) (v_rowOf : List Int32) (v_colOf : List Int32) (v_below : List Int32) (v_face : List Int32) (v_tall : List Int32) : Option (Int32 × Int32 × List Int32 × List Int32 × List Int32 × List Int32 × List Int32) :=
    mm_nm ((s1 + s0)) (fun (y_42 : Int32) =>
    mm_ck (mm_inb s2 v_below.length) (mm_nm (mm_is v_below s2 y_42) (fun (l_44 : List Int32) =>
    mm_ck (mm_inb x5 v_face.length) (mm_nm (((1 : Int32) - (mm_ig v_face x5))) (fun (y_46 : Int32) =>
    mm_ck (mm_inb x5 v_face.length) (mm_nm (mm_is v_face x5 y_46) (fun (l_48 : List Int32) =>
    fX5_turn_188 N k_35 x1 x2 x4 x5 x7 v_rows v_cols v_high v_wide v_rowOf v_colOf l_44 l_48 v_tall)))))))

set_option maxHeartbeats 4000000 in
set_option maxRecDepth 100000 in
theorem tX5_turn_144 {p : Program} {l : Launch} {e : Env} {s : State} {m : MethodId} {args : Array Value} {below : List Frame} {meth : Method} {c : Code} {D : va_G} {cI cL cS cH : ClassId} {A : Nat → Prop} {d : Nat} {a : Nat → Nat} (hd : 3 ≤ d) (C0 : mm_Cx p s m args meth c RX5 cX5_turn 10 none D (mm_T cI cL cS cH) A) (hA : ∀ q, s.heap.size ≤ q → A q) {v_folds : Int32} {v_wrong : Int32} {v_more : Int32} {v_worn : List Int32} {v_last : List Int32} {v_bend : List Int32} {w_high : Int32} {w_wide : Int32} {w_rowOf : List Int32} {w_colOf : List Int32} {w_below : List Int32} {w_face : List Int32} {w_tall : List Int32} (N : Nat) {k_35 : Int32 → Int32 → Int32 → Int32 → Int32 → Int32 → Int32 → Int32 → List Int32 → List Int32 → List Int32 → List Int32 → List Int32 → Option (Int32 × Int32 × List Int32 × List Int32 × List Int32 × List Int32 × List Int32)} (hk_35 : ∀ (x1 : Int32) (x2 : Int32) (x4 : Int32) (x5 : Int32) (v_rows : Int32) (v_cols : Int32) (v_high : Int32) (v_wide : Int32) (v_rowOf : List Int32) (v_colOf : List Int32) (v_below : List Int32) (v_face : List Int32) (v_tall : List Int32) (H : Heap) (locs : List Loc) (ls : Array Slot), k_35 x1 x2 x4 x5 v_rows v_cols v_high v_wide v_rowOf v_colOf v_below v_face v_tall = some (w_high, w_wide, w_rowOf, w_colOf, w_below, w_face, w_tall) → va_P D mm_cl (wd_X5 cI cL cS cH a v_rows v_cols v_high v_wide v_folds v_wrong v_more v_rowOf v_colOf v_below v_face v_worn v_last v_bend v_tall) H → va_D A (wd_X5 cI cL cS cH a v_rows v_cols v_high v_wide v_folds v_wrong v_more v_rowOf v_colOf v_below v_face v_worn v_last v_bend v_tall) → va_S A s.heap H locs → lv_has ls 10 [(0, .ref (a 0)), (1, .int x1), (2, .int x2), (4, .int x4), (5, .int x5)] → W p l e (mm_rr d) s m args below meth c H locs 0 0 (mm_Z below D A (wd_X5 cI cL cS cH a v_rows v_cols w_high w_wide v_folds v_wrong v_more w_rowOf w_colOf w_below w_face v_worn v_last v_bend w_tall) none args s) (F0 m 35 ls [])) : ∀ (x1 : Int32) (x2 : Int32) (x4 : Int32) (x5 : Int32) (x7 : Int32) (s0 : Int32) (s1 : Int32) (s2 : Int32) (v_rows : Int32) (v_cols : Int32) (v_high : Int32) (v_wide : Int32) (v_rowOf : List Int32) (v_colOf : List Int32) (v_below : List Int32) (v_face : List Int32) (v_tall : List Int32) (H : Heap) (locs : List Loc) (ls : Array Slot), fX5_turn_144 N k_35 x1 x2 x4 x5 x7 s0 s1 s2 v_rows v_cols v_high v_wide v_rowOf v_colOf v_below v_face v_tall = some (w_high, w_wide, w_rowOf, w_colOf, w_below, w_face, w_tall) → va_P D mm_cl (wd_X5 cI cL cS cH a v_rows v_cols v_high v_wide v_folds v_wrong v_more v_rowOf v_colOf v_below v_face v_worn v_last v_bend v_tall) H → va_D A (wd_X5 cI cL cS cH a v_rows v_cols v_high v_wide v_folds v_wrong v_more v_rowOf v_colOf v_below v_face v_worn v_last v_bend v_tall) → va_S A s.heap H locs → lv_has ls 10 [(0, .ref (a 0)), (1, .int x1), (2, .int x2), (4, .int x4), (5, .int x5), (7, .int x7)] → W p l e (mm_rr d) s m args below meth c H locs 0 0 (mm_Z below D A (wd_X5 cI cL cS cH a v_rows v_cols w_high w_wide v_folds v_wrong v_more w_rowOf w_colOf w_below w_face v_worn v_last v_bend w_tall) none args s) (F0 m 144 ls [.int s0, .int s1, .int s2, .ref (a 3)]) := by
  obtain ⟨hx, hb, hml, hown, hts, hr, hlocks, hK, hSt⟩ := id C0
  intro x1 x2 x4 x5 x7 s0 s1 s2 v_rows v_cols v_high v_wide v_rowOf v_colOf v_below v_face v_tall H locs ls hf hP hD hS hl
  unfold fX5_turn_144 at hf
  refine lv_iadd hx hb dX5_turn_144 ?_
  refine lv_topi (fun y_42 ey_42 => ?_)
  have hf := mm_nms hf ey_42
  obtain ⟨h_43, hf⟩ := mm_cks hf
  refine mm_iast C0 hP hD hS 3 rfl h_43 dX5_turn_145 (w2 := (wd_X5 cI cL cS cH a v_rows v_cols v_high v_wide v_folds v_wrong v_more v_rowOf v_colOf (mm_is v_below s2 y_42) v_face v_worn v_last v_bend v_tall)) rfl (fun H locs hP hD hS => ?_)
  generalize el_44 : (mm_is v_below s2 y_42) = l_44 at hP hD
  have hf := mm_nms hf el_44.symm
  refine lv_aload_n hx hb dX5_turn_146 rfl (lv_at hl 0 rfl) ?_
  refine mm_get C0 hP iw_X5 0 rfl rfl 10 (by decide) fl_X5_21 rfl dX5_turn_147 ?_
  refine lv_iload hx hb dX5_turn_150 (lv_at hl 4 rfl) ?_
  refine lv_iconst (v := 1) hx hb dX5_turn_152 (by decide) ?_
  refine lv_aload_n hx hb dX5_turn_153 rfl (lv_at hl 0 rfl) ?_
  refine mm_get C0 hP iw_X5 0 rfl rfl 10 (by decide) fl_X5_21 rfl dX5_turn_154 ?_
  refine lv_iload hx hb dX5_turn_157 (lv_at hl 4 rfl) ?_
  obtain ⟨h_45, hf⟩ := mm_cks hf
  refine mm_iald C0 hP 4 rfl h_45 dX5_turn_159 ?_
  refine lv_isub hx hb dX5_turn_160 ?_
  refine lv_topi (fun y_46 ey_46 => ?_)
  have hf := mm_nms hf ey_46
  obtain ⟨h_47, hf⟩ := mm_cks hf
  refine mm_iast C0 hP hD hS 4 rfl h_47 dX5_turn_161 (w2 := (wd_X5 cI cL cS cH a v_rows v_cols v_high v_wide v_folds v_wrong v_more v_rowOf v_colOf l_44 (mm_is v_face x5 y_46) v_worn v_last v_bend v_tall)) rfl (fun H locs hP hD hS => ?_)
  generalize el_48 : (mm_is v_face x5 y_46) = l_48 at hP hD
  have hf := mm_nms hf el_48.symm
  refine lv_iload hx hb dX5_turn_162 (lv_at hl 5 rfl) ?_
  refine lv_istore (lv' := [(6, .int x7), (0, .ref (a 0)), (1, .int x1), (2, .int x2), (4, .int x4), (5, .int x5), (7, .int x7)]) hx hb dX5_turn_164 hl (by decide) rfl (fun ls hl => ?_)
  refine lv_goto (tgt := 188) hx hb dX5_turn_166 (by decide) ?_
  exact tX5_turn_188 hd C0 hA N hk_35 _ _ _ _ _ _ _ _ _ _ _ _ _ _ H locs ls hf hP hD hS (lv_sub hl [1, 2, 3, 4, 5, 0] rfl)

def fX5_turn_90 (N : Nat) (k_35 : Int32 → Int32 → Int32 → Int32 → Int32 → Int32 → Int32 → Int32 → List Int32 → List Int32 → List Int32 → List Int32 → List Int32 → Option (Int32 × Int32 × List Int32 × List Int32 × List Int32 × List Int32 × List Int32)) (x1 : Int32) (x2 : Int32) (x4 : Int32) (x5 : Int32) (x6 : Int32) (x7 : Int32) (x8 : Int32) (s0 : Int32) (v_rows : Int32) (v_cols : Int32) (v_high : Int32) (v_wide : Int32) (v_rowOf : List Int32) (v_colOf : List Int32) (v_below : List Int32) (v_face : List Int32) (v_tall : List Int32) : Option (Int32 × Int32 × List Int32 × List Int32 × List Int32 × List Int32 × List Int32) :=
    mm_bd1 (fX5_comesFromStart N x2) (fun (r_24 : Bool) =>
    if s0 = (mm_b r_24) then
    (mm_bd1 (fX5_across N x5 x2 v_rowOf v_colOf) (fun (r_34 : Int32) =>
    mm_bd1 (fX5_tallAt N x6 r_34 x2 v_high v_wide v_tall) (fun (r_36 : Int32) =>
    mm_ck (mm_inb x5 v_below.length) (mm_bd1 (fX5_comesOver N x2) (fun (r_39 : Bool) =>
    if r_39 = false then
    (fX5_turn_144 N k_35 x1 x2 x4 x5 x7 (0 : Int32) ((r_36 - (1 : Int32)) - (mm_ig v_below x5)) x5 v_rows v_cols v_high v_wide v_rowOf v_colOf v_below v_face v_tall)
    else (fX5_turn_144 N k_35 x1 x2 x4 x5 x7 x8 ((r_36 - (1 : Int32)) - (mm_ig v_below x5)) x5 v_rows v_cols v_high v_wide v_rowOf v_colOf v_below v_face v_tall))))))
    else (mm_bd1 (fX5_comesOver N x2) (fun (r_27 : Bool) =>
    if r_27 = false then
    (mm_ck (mm_inb x5 v_below.length) (mm_nm (((mm_ig v_below x5) + x8)) (fun (y_31 : Int32) =>
    mm_ck (mm_inb x5 v_below.length) (mm_nm (mm_is v_below x5 y_31) (fun (l_33 : List Int32) =>
    fX5_turn_188 N k_35 x1 x2 x4 x5 x6 v_rows v_cols v_high v_wide v_rowOf v_colOf l_33 v_face v_tall)))))
    else (fX5_turn_188 N k_35 x1 x2 x4 x5 x6 v_rows v_cols v_high v_wide v_rowOf v_colOf v_below v_face v_tall))))

set_option maxHeartbeats 4000000 in
set_option maxRecDepth 100000 in
theorem tX5_turn_90 {p : Program} {l : Launch} {e : Env} {s : State} {m : MethodId} {args : Array Value} {below : List Frame} {meth : Method} {c : Code} {D : va_G} {cI cL cS cH : ClassId} {A : Nat → Prop} {d : Nat} {a : Nat → Nat} (hd : 3 ≤ d) (C0 : mm_Cx p s m args meth c RX5 cX5_turn 10 none D (mm_T cI cL cS cH) A) (hA : ∀ q, s.heap.size ≤ q → A q) {v_folds : Int32} {v_wrong : Int32} {v_more : Int32} {v_worn : List Int32} {v_last : List Int32} {v_bend : List Int32} {w_high : Int32} {w_wide : Int32} {w_rowOf : List Int32} {w_colOf : List Int32} {w_below : List Int32} {w_face : List Int32} {w_tall : List Int32} (N : Nat) {k_35 : Int32 → Int32 → Int32 → Int32 → Int32 → Int32 → Int32 → Int32 → List Int32 → List Int32 → List Int32 → List Int32 → List Int32 → Option (Int32 × Int32 × List Int32 × List Int32 × List Int32 × List Int32 × List Int32)} (hk_35 : ∀ (x1 : Int32) (x2 : Int32) (x4 : Int32) (x5 : Int32) (v_rows : Int32) (v_cols : Int32) (v_high : Int32) (v_wide : Int32) (v_rowOf : List Int32) (v_colOf : List Int32) (v_below : List Int32) (v_face : List Int32) (v_tall : List Int32) (H : Heap) (locs : List Loc) (ls : Array Slot), k_35 x1 x2 x4 x5 v_rows v_cols v_high v_wide v_rowOf v_colOf v_below v_face v_tall = some (w_high, w_wide, w_rowOf, w_colOf, w_below, w_face, w_tall) → va_P D mm_cl (wd_X5 cI cL cS cH a v_rows v_cols v_high v_wide v_folds v_wrong v_more v_rowOf v_colOf v_below v_face v_worn v_last v_bend v_tall) H → va_D A (wd_X5 cI cL cS cH a v_rows v_cols v_high v_wide v_folds v_wrong v_more v_rowOf v_colOf v_below v_face v_worn v_last v_bend v_tall) → va_S A s.heap H locs → lv_has ls 10 [(0, .ref (a 0)), (1, .int x1), (2, .int x2), (4, .int x4), (5, .int x5)] → W p l e (mm_rr d) s m args below meth c H locs 0 0 (mm_Z below D A (wd_X5 cI cL cS cH a v_rows v_cols w_high w_wide v_folds v_wrong v_more w_rowOf w_colOf w_below w_face v_worn v_last v_bend w_tall) none args s) (F0 m 35 ls [])) : ∀ (x1 : Int32) (x2 : Int32) (x4 : Int32) (x5 : Int32) (x6 : Int32) (x7 : Int32) (x8 : Int32) (s0 : Int32) (v_rows : Int32) (v_cols : Int32) (v_high : Int32) (v_wide : Int32) (v_rowOf : List Int32) (v_colOf : List Int32) (v_below : List Int32) (v_face : List Int32) (v_tall : List Int32) (H : Heap) (locs : List Loc) (ls : Array Slot), fX5_turn_90 N k_35 x1 x2 x4 x5 x6 x7 x8 s0 v_rows v_cols v_high v_wide v_rowOf v_colOf v_below v_face v_tall = some (w_high, w_wide, w_rowOf, w_colOf, w_below, w_face, w_tall) → va_P D mm_cl (wd_X5 cI cL cS cH a v_rows v_cols v_high v_wide v_folds v_wrong v_more v_rowOf v_colOf v_below v_face v_worn v_last v_bend v_tall) H → va_D A (wd_X5 cI cL cS cH a v_rows v_cols v_high v_wide v_folds v_wrong v_more v_rowOf v_colOf v_below v_face v_worn v_last v_bend v_tall) → va_S A s.heap H locs → lv_has ls 10 [(0, .ref (a 0)), (1, .int x1), (2, .int x2), (4, .int x4), (5, .int x5), (6, .int x6), (7, .int x7), (8, .int x8)] → W p l e (mm_rr d) s m args below meth c H locs 0 0 (mm_Z below D A (wd_X5 cI cL cS cH a v_rows v_cols w_high w_wide v_folds v_wrong v_more w_rowOf w_colOf w_below w_face v_worn v_last v_bend w_tall) none args s) (F0 m 90 ls [.int s0]) := by
  obtain ⟨hx, hb, hml, hown, hts, hr, hlocks, hK, hSt⟩ := id C0
  intro x1 x2 x4 x5 x6 x7 x8 s0 v_rows v_cols v_high v_wide v_rowOf v_colOf v_below v_face v_tall H locs ls hf hP hD hS hl
  unfold fX5_turn_90 at hf
  refine lv_iload_n hx hb dX5_turn_90 rfl (lv_at hl 2 rfl) ?_
  obtain ⟨r_24, hc_25, hf⟩ := mm_bd1s hf
  refine mm_callS0 (rest := [.int s0]) C0 lk_X5_135 (ctX5_comesFromStart (d := d - 1) (by omega) hc_25) (by omega) rfl hl.1 rfl (mm_cat rfl) dX5_turn_91 hP hD hA hS (fun H locs hP hS => ?_)
  refine W.eq (g2 := F0 m 94 ls [.int (mm_b r_24), .int s0]) rfl ?_
  refine lv_icmp_ne (tgt := 169) hx hb dX5_turn_94 (by decide) (fun c_26 => ?_) (fun c_26 => ?_)
  · have hf := mm_in hf c_26
    refine lv_iload_n hx hb dX5_turn_169 rfl (lv_at hl 2 rfl) ?_
    obtain ⟨r_27, hc_28, hf⟩ := mm_bd1s hf
    refine mm_callS0 (rest := []) C0 lk_X5_147 (ctX5_comesOver (d := d - 1) (by omega) hc_28) (by omega) rfl hl.1 rfl (mm_cat rfl) dX5_turn_170 hP hD hA hS (fun H locs hP hS => ?_)
    refine W.eq (g2 := F0 m 173 ls [.int (mm_b r_27)]) rfl ?_
    refine lv_if_ne (tgt := 188) hx hb dX5_turn_173 (by decide) (fun c_29 => ?_) (fun c_29 => ?_)
    · have hf := mm_in hf (mm_b1 c_29)
      exact tX5_turn_188 hd C0 hA N hk_35 _ _ _ _ _ _ _ _ _ _ _ _ _ _ H locs ls hf hP hD hS (lv_sub hl [0, 1, 2, 3, 4, 5] rfl)
    · have hf := mm_ip hf (mm_b0 c_29)
      refine lv_aload_n hx hb dX5_turn_176 rfl (lv_at hl 0 rfl) ?_
      refine mm_get C0 hP iw_X5 0 rfl rfl 9 (by decide) fl_X5_18 rfl dX5_turn_177 ?_
      refine lv_iload hx hb dX5_turn_180 (lv_at hl 4 rfl) ?_
      refine lv_dup2_11 hx hb dX5_turn_182 rfl rfl ?_
      obtain ⟨h_30, hf⟩ := mm_cks hf
      refine mm_iald C0 hP 3 rfl h_30 dX5_turn_183 ?_
      refine lv_iload hx hb dX5_turn_184 (lv_at hl 7 rfl) ?_
      refine lv_iadd hx hb dX5_turn_186 ?_
      refine lv_topi (fun y_31 ey_31 => ?_)
      have hf := mm_nms hf ey_31
      obtain ⟨h_32, hf⟩ := mm_cks hf
      refine mm_iast C0 hP hD hS 3 rfl h_32 dX5_turn_187 (w2 := (wd_X5 cI cL cS cH a v_rows v_cols v_high v_wide v_folds v_wrong v_more v_rowOf v_colOf (mm_is v_below x5 y_31) v_face v_worn v_last v_bend v_tall)) rfl (fun H locs hP hD hS => ?_)
      generalize el_33 : (mm_is v_below x5 y_31) = l_33 at hP hD
      have hf := mm_nms hf el_33.symm
      exact tX5_turn_188 hd C0 hA N hk_35 _ _ _ _ _ _ _ _ _ _ _ _ _ _ H locs ls hf hP hD hS (lv_sub hl [0, 1, 2, 3, 4, 5] rfl)
  · have hf := mm_ip hf c_26
    refine lv_aload_n hx hb dX5_turn_97 rfl (lv_at hl 0 rfl) ?_
    refine lv_iload hx hb dX5_turn_98 (lv_at hl 5 rfl) ?_
    refine lv_aload_n hx hb dX5_turn_100 rfl (lv_at hl 0 rfl) ?_
    refine lv_iload hx hb dX5_turn_101 (lv_at hl 4 rfl) ?_
    refine lv_iload_n hx hb dX5_turn_103 rfl (lv_at hl 2 rfl) ?_
    obtain ⟨r_34, hc_35, hf⟩ := mm_bd1s hf
    refine mm_callVF (q0 := 0) (ci := 5) (rest := [.int x6, .ref (a 0)]) C0 lk_X5_138 (ctX5_across (a := a) (d := d - 1) (by omega) hc_35) (by omega) rfl hl.1 rfl (mm_cat rfl) dX5_turn_104 hP hD hA hS rfl rfl (fun H locs hP hD hS => ?_)
    refine W.eq (g2 := F0 m 107 ls [.int r_34, .int x6, .ref (a 0)]) rfl ?_
    refine lv_iload_n hx hb dX5_turn_107 rfl (lv_at hl 2 rfl) ?_
    obtain ⟨r_36, hc_37, hf⟩ := mm_bd1s hf
    refine mm_callVF (q0 := 0) (ci := 5) (rest := []) C0 lk_X5_162 (ctX5_tallAt (a := a) (d := d - 1) (by omega) hc_37) (by omega) rfl hl.1 rfl (mm_cat rfl) dX5_turn_108 hP hD hA hS rfl rfl (fun H locs hP hD hS => ?_)
    refine W.eq (g2 := F0 m 111 ls [.int r_36]) rfl ?_
    refine lv_istore (lv' := [(9, .int r_36), (0, .ref (a 0)), (1, .int x1), (2, .int x2), (4, .int x4), (5, .int x5), (6, .int x6), (7, .int x7), (8, .int x8)]) hx hb dX5_turn_111 hl (by decide) rfl (fun ls hl => ?_)
    refine lv_aload_n hx hb dX5_turn_113 rfl (lv_at hl 1 rfl) ?_
    refine mm_get C0 hP iw_X5 0 rfl rfl 9 (by decide) fl_X5_18 rfl dX5_turn_114 ?_
    refine lv_iload hx hb dX5_turn_117 (lv_at hl 5 rfl) ?_
    refine lv_iload hx hb dX5_turn_119 (lv_at hl 0 rfl) ?_
    refine lv_iconst (v := 1) hx hb dX5_turn_121 (by decide) ?_
    refine lv_isub hx hb dX5_turn_122 ?_
    refine lv_aload_n hx hb dX5_turn_123 rfl (lv_at hl 1 rfl) ?_
    refine mm_get C0 hP iw_X5 0 rfl rfl 9 (by decide) fl_X5_18 rfl dX5_turn_124 ?_
    refine lv_iload hx hb dX5_turn_127 (lv_at hl 5 rfl) ?_
    obtain ⟨h_38, hf⟩ := mm_cks hf
    refine mm_iald C0 hP 3 rfl h_38 dX5_turn_129 ?_
    refine lv_isub hx hb dX5_turn_130 ?_
    refine lv_iload_n hx hb dX5_turn_131 rfl (lv_at hl 3 rfl) ?_
    obtain ⟨r_39, hc_40, hf⟩ := mm_bd1s hf
    refine mm_callS0 (rest := [.int ((r_36 - (1 : Int32)) - (mm_ig v_below x5)), .int x5, .ref (a 3)]) C0 lk_X5_147 (ctX5_comesOver (d := d - 1) (by omega) hc_40) (by omega) rfl hl.1 rfl (mm_cat rfl) dX5_turn_132 hP hD hA hS (fun H locs hP hS => ?_)
    refine W.eq (g2 := F0 m 135 ls [.int (mm_b r_39), .int ((r_36 - (1 : Int32)) - (mm_ig v_below x5)), .int x5, .ref (a 3)]) rfl ?_
    refine lv_if_eq (tgt := 143) hx hb dX5_turn_135 (by decide) (fun c_41 => ?_) (fun c_41 => ?_)
    · have hf := mm_ip hf (mm_b0 c_41)
      refine lv_iconst (v := 0) hx hb dX5_turn_143 (by decide) ?_
      exact tX5_turn_144 hd C0 hA N hk_35 _ _ _ _ _ _ _ _ _ _ _ _ _ _ _ _ _ H locs ls hf hP hD hS (lv_sub hl [1, 2, 3, 4, 5, 7] rfl)
    · have hf := mm_in hf (mm_b1 c_41)
      refine lv_iload hx hb dX5_turn_138 (lv_at hl 8 rfl) ?_
      refine lv_goto (tgt := 144) hx hb dX5_turn_140 (by decide) ?_
      exact tX5_turn_144 hd C0 hA N hk_35 _ _ _ _ _ _ _ _ _ _ _ _ _ _ _ _ _ H locs ls hf hP hD hS (lv_sub hl [1, 2, 3, 4, 5, 7] rfl)

def fX5_turn_35 (N : Nat)  : Nat → Int32 → Int32 → Int32 → Int32 → Int32 → Int32 → Int32 → Int32 → List Int32 → List Int32 → List Int32 → List Int32 → List Int32 → Option (Int32 × Int32 × List Int32 × List Int32 × List Int32 × List Int32 × List Int32)
  | 0 => fun _ _ _ _ _ _ _ _ _ _ _ _ _ => none
  | n + 1 => fun x1 x2 x4 x5 v_rows v_cols v_high v_wide v_rowOf v_colOf v_below v_face v_tall =>
    mm_bd1 (fX5_fields N v_rows v_cols) (fun (r_8 : Int32) =>
    if r_8 ≤ x5 then
    (mm_bd1 (fX5_spanBehind N x1 x2 v_high v_wide) (fun (r_11 : Int32) =>
    mm_bd2 (fX5_narrow N x2 r_11 v_high v_wide) (fun (w_13 : Int32) (w_14 : Int32) =>
    some (w_13, w_14, v_rowOf, v_colOf, v_below, v_face, v_tall))))
    else (mm_bd1 (fX5_along N x5 x2 v_rowOf v_colOf) (fun (r_16 : Int32) =>
    mm_nm (((((2 : Int32) * x1) - (1 : Int32)) - r_16)) (fun (y_18 : Int32) =>
    mm_bd1 (fX5_across N x5 x2 v_rowOf v_colOf) (fun (r_19 : Int32) =>
    mm_bd1 (fX5_tallAt N y_18 r_19 x2 v_high v_wide v_tall) (fun (r_21 : Int32) =>
    if x1 ≤ r_16 then
    (fX5_turn_90 N (fX5_turn_35 N n) x1 x2 x4 x5 r_16 y_18 r_21 (0 : Int32) v_rows v_cols v_high v_wide v_rowOf v_colOf v_below v_face v_tall)
    else (fX5_turn_90 N (fX5_turn_35 N n) x1 x2 x4 x5 r_16 y_18 r_21 (1 : Int32) v_rows v_cols v_high v_wide v_rowOf v_colOf v_below v_face v_tall)))))))

set_option maxHeartbeats 4000000 in
set_option maxRecDepth 100000 in
theorem tX5_turn_35 {p : Program} {l : Launch} {e : Env} {s : State} {m : MethodId} {args : Array Value} {below : List Frame} {meth : Method} {c : Code} {D : va_G} {cI cL cS cH : ClassId} {A : Nat → Prop} {d : Nat} {a : Nat → Nat} (hd : 3 ≤ d) (C0 : mm_Cx p s m args meth c RX5 cX5_turn 10 none D (mm_T cI cL cS cH) A) (hA : ∀ q, s.heap.size ≤ q → A q) {v_folds : Int32} {v_wrong : Int32} {v_more : Int32} {v_worn : List Int32} {v_last : List Int32} {v_bend : List Int32} {w_high : Int32} {w_wide : Int32} {w_rowOf : List Int32} {w_colOf : List Int32} {w_below : List Int32} {w_face : List Int32} {w_tall : List Int32} (N : Nat)  : ∀ (n : Nat), ∀ (x1 : Int32) (x2 : Int32) (x4 : Int32) (x5 : Int32) (v_rows : Int32) (v_cols : Int32) (v_high : Int32) (v_wide : Int32) (v_rowOf : List Int32) (v_colOf : List Int32) (v_below : List Int32) (v_face : List Int32) (v_tall : List Int32) (H : Heap) (locs : List Loc) (ls : Array Slot), fX5_turn_35 N n x1 x2 x4 x5 v_rows v_cols v_high v_wide v_rowOf v_colOf v_below v_face v_tall = some (w_high, w_wide, w_rowOf, w_colOf, w_below, w_face, w_tall) → va_P D mm_cl (wd_X5 cI cL cS cH a v_rows v_cols v_high v_wide v_folds v_wrong v_more v_rowOf v_colOf v_below v_face v_worn v_last v_bend v_tall) H → va_D A (wd_X5 cI cL cS cH a v_rows v_cols v_high v_wide v_folds v_wrong v_more v_rowOf v_colOf v_below v_face v_worn v_last v_bend v_tall) → va_S A s.heap H locs → lv_has ls 10 [(0, .ref (a 0)), (1, .int x1), (2, .int x2), (4, .int x4), (5, .int x5)] → W p l e (mm_rr d) s m args below meth c H locs 0 0 (mm_Z below D A (wd_X5 cI cL cS cH a v_rows v_cols w_high w_wide v_folds v_wrong v_more w_rowOf w_colOf w_below w_face v_worn v_last v_bend w_tall) none args s) (F0 m 35 ls []) := by
  obtain ⟨hx, hb, hml, hown, hts, hr, hlocks, hK, hSt⟩ := id C0
  intro n
  induction n with
  | zero =>
    intro x1 x2 x4 x5 v_rows v_cols v_high v_wide v_rowOf v_colOf v_below v_face v_tall H locs ls hf
    cases (show none = some _ from hf)
  | succ n ih =>
    intro x1 x2 x4 x5 v_rows v_cols v_high v_wide v_rowOf v_colOf v_below v_face v_tall H locs ls hf hP hD hS hl
    unfold fX5_turn_35 at hf
    refine lv_iload hx hb dX5_turn_35 (lv_at hl 4 rfl) ?_
    refine lv_aload_n hx hb dX5_turn_37 rfl (lv_at hl 0 rfl) ?_
    obtain ⟨r_8, hc_9, hf⟩ := mm_bd1s hf
    refine mm_callVF (q0 := 0) (ci := 5) (rest := [.int x5]) C0 lk_X5_84 (ctX5_fields (a := a) (d := d - 1) (by omega) hc_9) (by omega) rfl hl.1 rfl (mm_cat rfl) dX5_turn_38 hP hD hA hS rfl rfl (fun H locs hP hD hS => ?_)
    refine W.eq (g2 := F0 m 41 ls [.int r_8, .int x5]) rfl ?_
    refine lv_icmp_ge (tgt := 206) hx hb dX5_turn_41 (by decide) (fun c_10 => ?_) (fun c_10 => ?_)
    · have hf := mm_ip hf c_10
      refine lv_aload_n hx hb dX5_turn_206 rfl (lv_at hl 0 rfl) ?_
      refine lv_iload_n hx hb dX5_turn_207 rfl (lv_at hl 2 rfl) ?_
      refine lv_aload_n hx hb dX5_turn_208 rfl (lv_at hl 0 rfl) ?_
      refine lv_iload_n hx hb dX5_turn_209 rfl (lv_at hl 1 rfl) ?_
      refine lv_iload_n hx hb dX5_turn_210 rfl (lv_at hl 2 rfl) ?_
      obtain ⟨r_11, hc_12, hf⟩ := mm_bd1s hf
      refine mm_callVF (q0 := 0) (ci := 5) (rest := [.int x2, .ref (a 0)]) C0 lk_X5_169 (ctX5_spanBehind (a := a) (d := d - 1) (by omega) hc_12) (by omega) rfl hl.1 rfl (mm_cat rfl) dX5_turn_211 hP hD hA hS rfl rfl (fun H locs hP hD hS => ?_)
      refine W.eq (g2 := F0 m 214 ls [.int r_11, .int x2, .ref (a 0)]) rfl ?_
      obtain ⟨w_13, w_14, hc_15, hf⟩ := mm_bd2s hf
      refine mm_callVF (q0 := 0) (ci := 5) (rest := []) C0 lk_X5_172 (ctX5_narrow (a := a) (d := d - 1) (by omega) hc_15) (by omega) rfl hl.1 rfl (mm_cat rfl) dX5_turn_214 hP hD hA hS rfl rfl (fun H locs hP hD hS => ?_)
      refine W.eq (g2 := F0 m 217 ls []) rfl ?_
      apply mm_sub7 hf
      exact mm_vret C0 hP hD hS dX5_turn_217
    · have hf := mm_in hf c_10
      refine lv_aload_n hx hb dX5_turn_44 rfl (lv_at hl 0 rfl) ?_
      refine lv_iload hx hb dX5_turn_45 (lv_at hl 4 rfl) ?_
      refine lv_iload_n hx hb dX5_turn_47 rfl (lv_at hl 2 rfl) ?_
      obtain ⟨r_16, hc_17, hf⟩ := mm_bd1s hf
      refine mm_callVF (q0 := 0) (ci := 5) (rest := []) C0 lk_X5_141 (ctX5_along (a := a) (d := d - 1) (by omega) hc_17) (by omega) rfl hl.1 rfl (mm_cat rfl) dX5_turn_48 hP hD hA hS rfl rfl (fun H locs hP hD hS => ?_)
      refine W.eq (g2 := F0 m 51 ls [.int r_16]) rfl ?_
      refine lv_istore (lv' := [(6, .int r_16), (0, .ref (a 0)), (1, .int x1), (2, .int x2), (4, .int x4), (5, .int x5)]) hx hb dX5_turn_51 hl (by decide) rfl (fun ls hl => ?_)
      refine lv_iconst (v := 2) hx hb dX5_turn_53 (by decide) ?_
      refine lv_iload_n hx hb dX5_turn_54 rfl (lv_at hl 2 rfl) ?_
      refine lv_imul hx hb dX5_turn_55 ?_
      refine lv_iconst (v := 1) hx hb dX5_turn_56 (by decide) ?_
      refine lv_isub hx hb dX5_turn_57 ?_
      refine lv_iload hx hb dX5_turn_58 (lv_at hl 0 rfl) ?_
      refine lv_isub hx hb dX5_turn_60 ?_
      refine lv_topi (fun y_18 ey_18 => ?_)
      have hf := mm_nms hf ey_18
      refine lv_istore (lv' := [(7, .int y_18), (6, .int r_16), (0, .ref (a 0)), (1, .int x1), (2, .int x2), (4, .int x4), (5, .int x5)]) hx hb dX5_turn_61 hl (by decide) rfl (fun ls hl => ?_)
      refine lv_aload_n hx hb dX5_turn_63 rfl (lv_at hl 2 rfl) ?_
      refine lv_iload hx hb dX5_turn_64 (lv_at hl 0 rfl) ?_
      refine lv_aload_n hx hb dX5_turn_66 rfl (lv_at hl 2 rfl) ?_
      refine lv_iload hx hb dX5_turn_67 (lv_at hl 6 rfl) ?_
      refine lv_iload_n hx hb dX5_turn_69 rfl (lv_at hl 4 rfl) ?_
      obtain ⟨r_19, hc_20, hf⟩ := mm_bd1s hf
      refine mm_callVF (q0 := 0) (ci := 5) (rest := [.int y_18, .ref (a 0)]) C0 lk_X5_138 (ctX5_across (a := a) (d := d - 1) (by omega) hc_20) (by omega) rfl hl.1 rfl (mm_cat rfl) dX5_turn_70 hP hD hA hS rfl rfl (fun H locs hP hD hS => ?_)
      refine W.eq (g2 := F0 m 73 ls [.int r_19, .int y_18, .ref (a 0)]) rfl ?_
      refine lv_iload_n hx hb dX5_turn_73 rfl (lv_at hl 4 rfl) ?_
      obtain ⟨r_21, hc_22, hf⟩ := mm_bd1s hf
      refine mm_callVF (q0 := 0) (ci := 5) (rest := []) C0 lk_X5_162 (ctX5_tallAt (a := a) (d := d - 1) (by omega) hc_22) (by omega) rfl hl.1 rfl (mm_cat rfl) dX5_turn_74 hP hD hA hS rfl rfl (fun H locs hP hD hS => ?_)
      refine W.eq (g2 := F0 m 77 ls [.int r_21]) rfl ?_
      refine lv_istore (lv' := [(8, .int r_21), (7, .int y_18), (6, .int r_16), (0, .ref (a 0)), (1, .int x1), (2, .int x2), (4, .int x4), (5, .int x5)]) hx hb dX5_turn_77 hl (by decide) rfl (fun ls hl => ?_)
      refine lv_iload hx hb dX5_turn_79 (lv_at hl 2 rfl) ?_
      refine lv_iload_n hx hb dX5_turn_81 rfl (lv_at hl 4 rfl) ?_
      refine lv_icmp_ge (tgt := 89) hx hb dX5_turn_82 (by decide) (fun c_23 => ?_) (fun c_23 => ?_)
      · have hf := mm_ip hf c_23
        refine lv_iconst (v := 0) hx hb dX5_turn_89 (by decide) ?_
        exact tX5_turn_90 hd C0 hA N ih _ _ _ _ _ _ _ _ _ _ _ _ _ _ _ _ _ H locs ls hf hP hD hS (lv_sub hl [3, 4, 5, 6, 7, 2, 1, 0] rfl)
      · have hf := mm_in hf c_23
        refine lv_iconst (v := 1) hx hb dX5_turn_85 (by decide) ?_
        refine lv_goto (tgt := 90) hx hb dX5_turn_86 (by decide) ?_
        exact tX5_turn_90 hd C0 hA N ih _ _ _ _ _ _ _ _ _ _ _ _ _ _ _ _ _ H locs ls hf hP hD hS (lv_sub hl [3, 4, 5, 6, 7, 2, 1, 0] rfl)

def fX5_turn_30 (N : Nat)  (x1 : Int32) (x2 : Int32) (s0 : Int32) (v_rows : Int32) (v_cols : Int32) (v_high : Int32) (v_wide : Int32) (v_rowOf : List Int32) (v_colOf : List Int32) (v_below : List Int32) (v_face : List Int32) (v_tall : List Int32) : Option (Int32 × Int32 × List Int32 × List Int32 × List Int32 × List Int32 × List Int32) :=
    fX5_turn_35 N N x1 x2 s0 (0 : Int32) v_rows v_cols v_high v_wide v_rowOf v_colOf v_below v_face v_tall

set_option maxHeartbeats 4000000 in
set_option maxRecDepth 100000 in
theorem tX5_turn_30 {p : Program} {l : Launch} {e : Env} {s : State} {m : MethodId} {args : Array Value} {below : List Frame} {meth : Method} {c : Code} {D : va_G} {cI cL cS cH : ClassId} {A : Nat → Prop} {d : Nat} {a : Nat → Nat} (hd : 3 ≤ d) (C0 : mm_Cx p s m args meth c RX5 cX5_turn 10 none D (mm_T cI cL cS cH) A) (hA : ∀ q, s.heap.size ≤ q → A q) {v_folds : Int32} {v_wrong : Int32} {v_more : Int32} {v_worn : List Int32} {v_last : List Int32} {v_bend : List Int32} {w_high : Int32} {w_wide : Int32} {w_rowOf : List Int32} {w_colOf : List Int32} {w_below : List Int32} {w_face : List Int32} {w_tall : List Int32} (N : Nat)  : ∀ (x1 : Int32) (x2 : Int32) (s0 : Int32) (v_rows : Int32) (v_cols : Int32) (v_high : Int32) (v_wide : Int32) (v_rowOf : List Int32) (v_colOf : List Int32) (v_below : List Int32) (v_face : List Int32) (v_tall : List Int32) (H : Heap) (locs : List Loc) (ls : Array Slot), fX5_turn_30 N x1 x2 s0 v_rows v_cols v_high v_wide v_rowOf v_colOf v_below v_face v_tall = some (w_high, w_wide, w_rowOf, w_colOf, w_below, w_face, w_tall) → va_P D mm_cl (wd_X5 cI cL cS cH a v_rows v_cols v_high v_wide v_folds v_wrong v_more v_rowOf v_colOf v_below v_face v_worn v_last v_bend v_tall) H → va_D A (wd_X5 cI cL cS cH a v_rows v_cols v_high v_wide v_folds v_wrong v_more v_rowOf v_colOf v_below v_face v_worn v_last v_bend v_tall) → va_S A s.heap H locs → lv_has ls 10 [(0, .ref (a 0)), (1, .int x1), (2, .int x2)] → W p l e (mm_rr d) s m args below meth c H locs 0 0 (mm_Z below D A (wd_X5 cI cL cS cH a v_rows v_cols w_high w_wide v_folds v_wrong v_more w_rowOf w_colOf w_below w_face v_worn v_last v_bend w_tall) none args s) (F0 m 30 ls [.int s0]) := by
  obtain ⟨hx, hb, hml, hown, hts, hr, hlocks, hK, hSt⟩ := id C0
  intro x1 x2 s0 v_rows v_cols v_high v_wide v_rowOf v_colOf v_below v_face v_tall H locs ls hf hP hD hS hl
  unfold fX5_turn_30 at hf
  refine lv_istore (lv' := [(4, .int s0), (0, .ref (a 0)), (1, .int x1), (2, .int x2)]) hx hb dX5_turn_30 hl (by decide) rfl (fun ls hl => ?_)
  refine lv_iconst (v := 0) hx hb dX5_turn_32 (by decide) ?_
  refine lv_istore (lv' := [(5, .int (0 : Int32)), (4, .int s0), (0, .ref (a 0)), (1, .int x1), (2, .int x2)]) hx hb dX5_turn_33 hl (by decide) rfl (fun ls hl => ?_)
  exact tX5_turn_35 hd C0 hA N  N _ _ _ _ _ _ _ _ _ _ _ _ _ H locs ls hf hP hD hS (lv_sub hl [2, 3, 4, 1, 0] rfl)

def fX5_turn (N : Nat) (x1 : Int32) (x2 : Int32) (v_rows : Int32) (v_cols : Int32) (v_high : Int32) (v_wide : Int32) (v_rowOf : List Int32) (v_colOf : List Int32) (v_below : List Int32) (v_face : List Int32) (v_tall : List Int32) : Option (Int32 × Int32 × List Int32 × List Int32 × List Int32 × List Int32 × List Int32) :=
    mm_bd1 (fX5_measurePiles N v_rows v_cols v_rowOf v_colOf v_tall) (fun (w_1 : List Int32) =>
    mm_bd1 (fX5_span N x2 v_high v_wide) (fun (r_3 : Int32) =>
    mm_bd1 (fX5_comesFromStart N x2) (fun (r_5 : Bool) =>
    if r_5 = false then
    (fX5_turn_30 N x1 x2 (mm_min (0 : Int32) (((2 : Int32) * x1) - r_3)) v_rows v_cols v_high v_wide v_rowOf v_colOf v_below v_face w_1)
    else (fX5_turn_30 N x1 x2 x1 v_rows v_cols v_high v_wide v_rowOf v_colOf v_below v_face w_1))))

set_option maxHeartbeats 4000000 in
set_option maxRecDepth 100000 in
theorem ctX5_turn {l : Launch} {D : va_G} {cI cL cS cH : ClassId} {a : Nat → Nat} {x1 : Int32} {x2 : Int32} {v_rows : Int32} {v_cols : Int32} {v_high : Int32} {v_wide : Int32} {v_folds : Int32} {v_wrong : Int32} {v_more : Int32} {v_rowOf : List Int32} {v_colOf : List Int32} {v_below : List Int32} {v_face : List Int32} {v_worn : List Int32} {v_last : List Int32} {v_bend : List Int32} {v_tall : List Int32} {w_high : Int32} {w_wide : Int32} {w_rowOf : List Int32} {w_colOf : List Int32} {w_below : List Int32} {w_face : List Int32} {w_tall : List Int32} {N d : Nat} (hd : 3 ≤ d) (hf : fX5_turn N x1 x2 v_rows v_cols v_high v_wide v_rowOf v_colOf v_below v_face v_tall = some (w_high, w_wide, w_rowOf, w_colOf, w_below, w_face, w_tall)) : mm_Ct l yX5_turn cX5_turn 10 none d D (mm_T cI cL cS cH) [.ref (a 0), .int x1, .int x2] (wd_X5 cI cL cS cH a v_rows v_cols v_high v_wide v_folds v_wrong v_more v_rowOf v_colOf v_below v_face v_worn v_last v_bend v_tall) (wd_X5 cI cL cS cH a v_rows v_cols w_high w_wide v_folds v_wrong v_more w_rowOf w_colOf w_below w_face v_worn v_last v_bend w_tall) none := by
  refine mm_of (by decide) (Nat.le_of_ble_eq_true rfl) ?_
  intro p e s m args below meth c A H locs ls C0 hP hD hA hS hl
  have C0 : mm_Cx p s m args meth c RX5 cX5_turn 10 none D (mm_T cI cL cS cH) A := C0
  obtain ⟨hx, hb, hml, hown, hts, hr, hlocks, hK, hSt⟩ := id C0
  have hl : lv_has ls 10 [(0, .ref (a 0)), (1, .int x1), (2, .int x2)] := hl
  unfold fX5_turn at hf
  refine lv_aload_n hx hb dX5_turn_0 rfl (lv_at hl 0 rfl) ?_
  obtain ⟨w_1, hc_2, hf⟩ := mm_bd1s hf
  refine mm_callVF (q0 := 0) (ci := 5) (rest := []) C0 lk_X5_159 (ctX5_measurePiles (a := a) (d := d - 1) (by omega) hc_2) (by omega) rfl hl.1 rfl (mm_cat rfl) dX5_turn_1 hP hD hA hS rfl rfl (fun H locs hP hD hS => ?_)
  refine W.eq (g2 := F0 m 4 ls []) rfl ?_
  refine lv_aload_n hx hb dX5_turn_4 rfl (lv_at hl 0 rfl) ?_
  refine lv_iload_n hx hb dX5_turn_5 rfl (lv_at hl 2 rfl) ?_
  obtain ⟨r_3, hc_4, hf⟩ := mm_bd1s hf
  refine mm_callVF (q0 := 0) (ci := 5) (rest := []) C0 lk_X5_88 (ctX5_span (a := a) (d := d - 1) (by omega) hc_4) (by omega) rfl hl.1 rfl (mm_cat rfl) dX5_turn_6 hP hD hA hS rfl rfl (fun H locs hP hD hS => ?_)
  refine W.eq (g2 := F0 m 9 ls [.int r_3]) rfl ?_
  refine lv_istore_n (lv' := [(3, .int r_3), (0, .ref (a 0)), (1, .int x1), (2, .int x2)]) hx hb dX5_turn_9 rfl hl (by decide) rfl (fun ls hl => ?_)
  refine lv_iload_n hx hb dX5_turn_10 rfl (lv_at hl 3 rfl) ?_
  obtain ⟨r_5, hc_6, hf⟩ := mm_bd1s hf
  refine mm_callS0 (rest := []) C0 lk_X5_135 (ctX5_comesFromStart (d := d - 1) (by omega) hc_6) (by omega) rfl hl.1 rfl (mm_cat rfl) dX5_turn_11 hP hD hA hS (fun H locs hP hS => ?_)
  refine W.eq (g2 := F0 m 14 ls [.int (mm_b r_5)]) rfl ?_
  refine lv_if_eq (tgt := 21) hx hb dX5_turn_14 (by decide) (fun c_7 => ?_) (fun c_7 => ?_)
  · have hf := mm_ip hf (mm_b0 c_7)
    refine lv_iconst (v := 0) hx hb dX5_turn_21 (by decide) ?_
    refine lv_iconst (v := 2) hx hb dX5_turn_22 (by decide) ?_
    refine lv_iload_n hx hb dX5_turn_23 rfl (lv_at hl 2 rfl) ?_
    refine lv_imul hx hb dX5_turn_24 ?_
    refine lv_iload_n hx hb dX5_turn_25 rfl (lv_at hl 0 rfl) ?_
    refine lv_isub hx hb dX5_turn_26 ?_
    refine mm_mmin C0 lm_X5_156 (by omega) hl.1 (mm_cat rfl) dX5_turn_27 ?_
    exact tX5_turn_30 hd C0 hA N  _ _ _ _ _ _ _ _ _ _ _ _ H locs ls hf hP hD hS (lv_sub hl [1, 2, 3] rfl)
  · have hf := mm_in hf (mm_b1 c_7)
    refine lv_iload_n hx hb dX5_turn_17 rfl (lv_at hl 2 rfl) ?_
    refine lv_goto (tgt := 30) hx hb dX5_turn_18 (by decide) ?_
    exact tX5_turn_30 hd C0 hA N  _ _ _ _ _ _ _ _ _ _ _ _ H locs ls hf hP hD hS (lv_sub hl [1, 2, 3] rfl)
end
section
/-! parts: X5_wear, X5_bendAndTurn, X6_holdFolding, J7_fill_d0a16, X6_holdRow, X6_hasPart, X6_lowestBits, X6_store, X7_lay, X7_isWithin, X7_crossing, X7_firstCross, X7_bits, X7_isLaid -/
theorem nb_dX5_wear_0 : bls_w cX5_wear [(0, [42]), (1, [180, 0, 27]), (4, [27]), (5, [46]), (6, [153, 0, 22]), (9, [42]), (10, [180, 0, 27]), (13, [27]), (14, [46]), (15, [42]), (16, [180, 0, 30]), (19, [27])] := bls_of (by decide +kernel)
theorem dX5_wear_0 : decode cX5_wear 0 = .ok (.aload_n 0, 1) := op_42 nb_dX5_wear_0.1
set_option maxRecDepth 100000 in
theorem dX5_wear_1 : decode cX5_wear 1 = .ok (.getfield 27, 3) := (op_180 nb_dX5_wear_0.2.1).trans rfl
theorem dX5_wear_4 : decode cX5_wear 4 = .ok (.iload_n 1, 1) := op_27 nb_dX5_wear_0.2.2.1
theorem dX5_wear_5 : decode cX5_wear 5 = .ok (.iaload, 1) := op_46 nb_dX5_wear_0.2.2.2.1
set_option maxRecDepth 100000 in
theorem dX5_wear_6 : decode cX5_wear 6 = .ok (.ifCond .eq 22, 3) := (op_153 nb_dX5_wear_0.2.2.2.2.1).trans rfl
theorem dX5_wear_9 : decode cX5_wear 9 = .ok (.aload_n 0, 1) := op_42 nb_dX5_wear_0.2.2.2.2.2.1
set_option maxRecDepth 100000 in
theorem dX5_wear_10 : decode cX5_wear 10 = .ok (.getfield 27, 3) := (op_180 nb_dX5_wear_0.2.2.2.2.2.2.1).trans rfl
theorem dX5_wear_13 : decode cX5_wear 13 = .ok (.iload_n 1, 1) := op_27 nb_dX5_wear_0.2.2.2.2.2.2.2.1
theorem dX5_wear_14 : decode cX5_wear 14 = .ok (.iaload, 1) := op_46 nb_dX5_wear_0.2.2.2.2.2.2.2.2.1
theorem dX5_wear_15 : decode cX5_wear 15 = .ok (.aload_n 0, 1) := op_42 nb_dX5_wear_0.2.2.2.2.2.2.2.2.2.1
set_option maxRecDepth 100000 in
theorem dX5_wear_16 : decode cX5_wear 16 = .ok (.getfield 30, 3) := (op_180 nb_dX5_wear_0.2.2.2.2.2.2.2.2.2.2.1).trans rfl
theorem dX5_wear_19 : decode cX5_wear 19 = .ok (.iload_n 1, 1) := op_27 nb_dX5_wear_0.2.2.2.2.2.2.2.2.2.2.2.1
theorem nb_dX5_wear_20 : bls_w cX5_wear [(20, [46]), (21, [159, 0, 7]), (24, [4]), (25, [167, 0, 4]), (28, [3]), (29, [54, 4]), (31, [42]), (32, [180, 0, 24]), (35, [27]), (36, [46]), (37, [54, 5]), (39, [45])] := bls_of (by decide +kernel)
theorem dX5_wear_20 : decode cX5_wear 20 = .ok (.iaload, 1) := op_46 nb_dX5_wear_20.1
set_option maxRecDepth 100000 in
theorem dX5_wear_21 : decode cX5_wear 21 = .ok (.if_icmp .eq 7, 3) := (op_159 nb_dX5_wear_20.2.1).trans rfl
theorem dX5_wear_24 : decode cX5_wear 24 = .ok (.iconst 1, 1) := op_4 nb_dX5_wear_20.2.2.1
set_option maxRecDepth 100000 in
theorem dX5_wear_25 : decode cX5_wear 25 = .ok (.goto 4, 3) := (op_167 nb_dX5_wear_20.2.2.2.1).trans rfl
theorem dX5_wear_28 : decode cX5_wear 28 = .ok (.iconst 0, 1) := op_3 nb_dX5_wear_20.2.2.2.2.1
set_option maxRecDepth 100000 in
theorem dX5_wear_29 : decode cX5_wear 29 = .ok (.istore 4, 2) := (op_54 nb_dX5_wear_20.2.2.2.2.2.1).trans rfl
theorem dX5_wear_31 : decode cX5_wear 31 = .ok (.aload_n 0, 1) := op_42 nb_dX5_wear_20.2.2.2.2.2.2.1
set_option maxRecDepth 100000 in
theorem dX5_wear_32 : decode cX5_wear 32 = .ok (.getfield 24, 3) := (op_180 nb_dX5_wear_20.2.2.2.2.2.2.2.1).trans rfl
theorem dX5_wear_35 : decode cX5_wear 35 = .ok (.iload_n 1, 1) := op_27 nb_dX5_wear_20.2.2.2.2.2.2.2.2.1
theorem dX5_wear_36 : decode cX5_wear 36 = .ok (.iaload, 1) := op_46 nb_dX5_wear_20.2.2.2.2.2.2.2.2.2.1
set_option maxRecDepth 100000 in
theorem dX5_wear_37 : decode cX5_wear 37 = .ok (.istore 5, 2) := (op_54 nb_dX5_wear_20.2.2.2.2.2.2.2.2.2.2.1).trans rfl
theorem dX5_wear_39 : decode cX5_wear 39 = .ok (.aload_n 3, 1) := op_45 nb_dX5_wear_20.2.2.2.2.2.2.2.2.2.2.2.1
theorem nb_dX5_wear_40 : bls_w cX5_wear [(40, [28]), (41, [21, 5]), (43, [21, 4]), (45, [27]), (46, [5]), (47, [112]), (48, [27]), (49, [5]), (50, [108]), (51, [42]), (52, [180, 0, 30]), (55, [27])] := bls_of (by decide +kernel)
theorem dX5_wear_40 : decode cX5_wear 40 = .ok (.iload_n 2, 1) := op_28 nb_dX5_wear_40.1
set_option maxRecDepth 100000 in
theorem dX5_wear_41 : decode cX5_wear 41 = .ok (.iload 5, 2) := (op_21 nb_dX5_wear_40.2.1).trans rfl
set_option maxRecDepth 100000 in
theorem dX5_wear_43 : decode cX5_wear 43 = .ok (.iload 4, 2) := (op_21 nb_dX5_wear_40.2.2.1).trans rfl
theorem dX5_wear_45 : decode cX5_wear 45 = .ok (.iload_n 1, 1) := op_27 nb_dX5_wear_40.2.2.2.1
theorem dX5_wear_46 : decode cX5_wear 46 = .ok (.iconst 2, 1) := op_5 nb_dX5_wear_40.2.2.2.2.1
theorem dX5_wear_47 : decode cX5_wear 47 = .ok (.irem, 1) := op_112 nb_dX5_wear_40.2.2.2.2.2.1
theorem dX5_wear_48 : decode cX5_wear 48 = .ok (.iload_n 1, 1) := op_27 nb_dX5_wear_40.2.2.2.2.2.2.1
theorem dX5_wear_49 : decode cX5_wear 49 = .ok (.iconst 2, 1) := op_5 nb_dX5_wear_40.2.2.2.2.2.2.2.1
theorem dX5_wear_50 : decode cX5_wear 50 = .ok (.idiv, 1) := op_108 nb_dX5_wear_40.2.2.2.2.2.2.2.2.1
theorem dX5_wear_51 : decode cX5_wear 51 = .ok (.aload_n 0, 1) := op_42 nb_dX5_wear_40.2.2.2.2.2.2.2.2.2.1
set_option maxRecDepth 100000 in
theorem dX5_wear_52 : decode cX5_wear 52 = .ok (.getfield 30, 3) := (op_180 nb_dX5_wear_40.2.2.2.2.2.2.2.2.2.2.1).trans rfl
theorem dX5_wear_55 : decode cX5_wear 55 = .ok (.iload_n 1, 1) := op_27 nb_dX5_wear_40.2.2.2.2.2.2.2.2.2.2.2.1
theorem nb_dX5_wear_56 : bls_w cX5_wear [(56, [46]), (57, [182, 0, 150]), (60, [54, 6]), (62, [42]), (63, [180, 0, 24]), (66, [27]), (67, [16, 99]), (69, [21, 5]), (71, [21, 6]), (73, [96]), (74, [184, 0, 156]), (77, [79])] := bls_of (by decide +kernel)
theorem dX5_wear_56 : decode cX5_wear 56 = .ok (.iaload, 1) := op_46 nb_dX5_wear_56.1
set_option maxRecDepth 100000 in
theorem dX5_wear_57 : decode cX5_wear 57 = .ok (.invokevirtual 150, 3) := (op_182 nb_dX5_wear_56.2.1).trans rfl
set_option maxRecDepth 100000 in
theorem dX5_wear_60 : decode cX5_wear 60 = .ok (.istore 6, 2) := (op_54 nb_dX5_wear_56.2.2.1).trans rfl
theorem dX5_wear_62 : decode cX5_wear 62 = .ok (.aload_n 0, 1) := op_42 nb_dX5_wear_56.2.2.2.1
set_option maxRecDepth 100000 in
theorem dX5_wear_63 : decode cX5_wear 63 = .ok (.getfield 24, 3) := (op_180 nb_dX5_wear_56.2.2.2.2.1).trans rfl
theorem dX5_wear_66 : decode cX5_wear 66 = .ok (.iload_n 1, 1) := op_27 nb_dX5_wear_56.2.2.2.2.2.1
set_option maxRecDepth 100000 in
theorem dX5_wear_67 : decode cX5_wear 67 = .ok (.bipush 99, 2) := (op_16 nb_dX5_wear_56.2.2.2.2.2.2.1).trans rfl
set_option maxRecDepth 100000 in
theorem dX5_wear_69 : decode cX5_wear 69 = .ok (.iload 5, 2) := (op_21 nb_dX5_wear_56.2.2.2.2.2.2.2.1).trans rfl
set_option maxRecDepth 100000 in
theorem dX5_wear_71 : decode cX5_wear 71 = .ok (.iload 6, 2) := (op_21 nb_dX5_wear_56.2.2.2.2.2.2.2.2.1).trans rfl
theorem dX5_wear_73 : decode cX5_wear 73 = .ok (.iadd, 1) := op_96 nb_dX5_wear_56.2.2.2.2.2.2.2.2.2.1
set_option maxRecDepth 100000 in
theorem dX5_wear_74 : decode cX5_wear 74 = .ok (.invokestatic 156, 3) := (op_184 nb_dX5_wear_56.2.2.2.2.2.2.2.2.2.2.1).trans rfl
theorem dX5_wear_77 : decode cX5_wear 77 = .ok (.iastore, 1) := op_79 nb_dX5_wear_56.2.2.2.2.2.2.2.2.2.2.2.1
theorem nb_dX5_wear_78 : bls_w cX5_wear [(78, [42]), (79, [180, 0, 27]), (82, [27]), (83, [42]), (84, [180, 0, 30]), (87, [27]), (88, [46]), (89, [79]), (90, [42]), (91, [89]), (92, [180, 0, 65]), (95, [42])] := bls_of (by decide +kernel)
theorem dX5_wear_78 : decode cX5_wear 78 = .ok (.aload_n 0, 1) := op_42 nb_dX5_wear_78.1
set_option maxRecDepth 100000 in
theorem dX5_wear_79 : decode cX5_wear 79 = .ok (.getfield 27, 3) := (op_180 nb_dX5_wear_78.2.1).trans rfl
theorem dX5_wear_82 : decode cX5_wear 82 = .ok (.iload_n 1, 1) := op_27 nb_dX5_wear_78.2.2.1
theorem dX5_wear_83 : decode cX5_wear 83 = .ok (.aload_n 0, 1) := op_42 nb_dX5_wear_78.2.2.2.1
set_option maxRecDepth 100000 in
theorem dX5_wear_84 : decode cX5_wear 84 = .ok (.getfield 30, 3) := (op_180 nb_dX5_wear_78.2.2.2.2.1).trans rfl
theorem dX5_wear_87 : decode cX5_wear 87 = .ok (.iload_n 1, 1) := op_27 nb_dX5_wear_78.2.2.2.2.2.1
theorem dX5_wear_88 : decode cX5_wear 88 = .ok (.iaload, 1) := op_46 nb_dX5_wear_78.2.2.2.2.2.2.1
theorem dX5_wear_89 : decode cX5_wear 89 = .ok (.iastore, 1) := op_79 nb_dX5_wear_78.2.2.2.2.2.2.2.1
theorem dX5_wear_90 : decode cX5_wear 90 = .ok (.aload_n 0, 1) := op_42 nb_dX5_wear_78.2.2.2.2.2.2.2.2.1
theorem dX5_wear_91 : decode cX5_wear 91 = .ok (.dup, 1) := op_89 nb_dX5_wear_78.2.2.2.2.2.2.2.2.2.1
set_option maxRecDepth 100000 in
theorem dX5_wear_92 : decode cX5_wear 92 = .ok (.getfield 65, 3) := (op_180 nb_dX5_wear_78.2.2.2.2.2.2.2.2.2.2.1).trans rfl
theorem dX5_wear_95 : decode cX5_wear 95 = .ok (.aload_n 0, 1) := op_42 nb_dX5_wear_78.2.2.2.2.2.2.2.2.2.2.2.1
theorem nb_dX5_wear_96 : bls_w cX5_wear [(96, [180, 0, 24]), (99, [27]), (100, [46]), (101, [21, 5]), (103, [100]), (104, [96]), (105, [181, 0, 65]), (108, [42]), (109, [89]), (110, [180, 0, 62]), (113, [21, 4]), (115, [96])] := bls_of (by decide +kernel)
set_option maxRecDepth 100000 in
theorem dX5_wear_96 : decode cX5_wear 96 = .ok (.getfield 24, 3) := (op_180 nb_dX5_wear_96.1).trans rfl
theorem dX5_wear_99 : decode cX5_wear 99 = .ok (.iload_n 1, 1) := op_27 nb_dX5_wear_96.2.1
theorem dX5_wear_100 : decode cX5_wear 100 = .ok (.iaload, 1) := op_46 nb_dX5_wear_96.2.2.1
set_option maxRecDepth 100000 in
theorem dX5_wear_101 : decode cX5_wear 101 = .ok (.iload 5, 2) := (op_21 nb_dX5_wear_96.2.2.2.1).trans rfl
theorem dX5_wear_103 : decode cX5_wear 103 = .ok (.isub, 1) := op_100 nb_dX5_wear_96.2.2.2.2.1
theorem dX5_wear_104 : decode cX5_wear 104 = .ok (.iadd, 1) := op_96 nb_dX5_wear_96.2.2.2.2.2.1
set_option maxRecDepth 100000 in
theorem dX5_wear_105 : decode cX5_wear 105 = .ok (.putfield 65, 3) := (op_181 nb_dX5_wear_96.2.2.2.2.2.2.1).trans rfl
theorem dX5_wear_108 : decode cX5_wear 108 = .ok (.aload_n 0, 1) := op_42 nb_dX5_wear_96.2.2.2.2.2.2.2.1
theorem dX5_wear_109 : decode cX5_wear 109 = .ok (.dup, 1) := op_89 nb_dX5_wear_96.2.2.2.2.2.2.2.2.1
set_option maxRecDepth 100000 in
theorem dX5_wear_110 : decode cX5_wear 110 = .ok (.getfield 62, 3) := (op_180 nb_dX5_wear_96.2.2.2.2.2.2.2.2.2.1).trans rfl
set_option maxRecDepth 100000 in
theorem dX5_wear_113 : decode cX5_wear 113 = .ok (.iload 4, 2) := (op_21 nb_dX5_wear_96.2.2.2.2.2.2.2.2.2.2.1).trans rfl
theorem dX5_wear_115 : decode cX5_wear 115 = .ok (.iadd, 1) := op_96 nb_dX5_wear_96.2.2.2.2.2.2.2.2.2.2.2.1
theorem nb_dX5_wear_116 : bls_w cX5_wear [(116, [181, 0, 62]), (119, [177])] := bls_of (by decide +kernel)
set_option maxRecDepth 100000 in
theorem dX5_wear_116 : decode cX5_wear 116 = .ok (.putfield 62, 3) := (op_181 nb_dX5_wear_116.1).trans rfl
theorem dX5_wear_119 : decode cX5_wear 119 = .ok (.return_, 1) := op_177 nb_dX5_wear_116.2.1
def fX5_wear_29 (N : Nat)  (x1 : Int32) (x2 : Int32) (s0 : Int32) (v_wrong : Int32) (v_more : Int32) (v_worn : List Int32) (v_last : List Int32) (v_bend : List Int32) (p3_stepCount : Int32) (p3_stacked : Int32) (p3_steps : List Int32) (p3_stack : List Int32) : Option (Int32 × Int32 × List Int32 × List Int32 × Int32 × List Int32) :=
    mm_ck (mm_inb x1 v_worn.length) (mm_nm ((mm_ig v_worn x1)) (fun (y_7 : Int32) =>
    mm_ck (mm_nz (2 : Int32)) (mm_ck (mm_nz (2 : Int32)) (mm_ck (mm_inb x1 v_bend.length) (mm_bd3 (fX2_worth N x2 y_7 s0 (mm_rem x1 (2 : Int32)) (x1 / (2 : Int32)) (mm_ig v_bend x1) p3_stepCount p3_stacked p3_steps p3_stack) (fun (r_11 : Int32) (w_12 : Int32) (w_13 : List Int32) =>
    mm_nm ((mm_min (99 : Int32) (y_7 + r_11))) (fun (y_15 : Int32) =>
    mm_ck (mm_inb x1 v_worn.length) (mm_nm (mm_is v_worn x1 y_15) (fun (l_17 : List Int32) =>
    mm_ck (mm_inb x1 v_bend.length) (mm_nm ((mm_ig v_bend x1)) (fun (y_19 : Int32) =>
    mm_ck (mm_inb x1 v_last.length) (mm_nm (mm_is v_last x1 y_19) (fun (l_21 : List Int32) =>
    mm_ck (mm_inb x1 l_17.length) (mm_nm ((v_more + ((mm_ig l_17 x1) - y_7))) (fun (y_23 : Int32) =>
    mm_nm ((v_wrong + s0)) (fun (y_24 : Int32) =>
    some (y_24, y_23, l_17, l_21, w_12, w_13)))))))))))))))))

set_option maxHeartbeats 4000000 in
set_option maxRecDepth 100000 in
theorem tX5_wear_29 {p : Program} {l : Launch} {e : Env} {s : State} {m : MethodId} {args : Array Value} {below : List Frame} {meth : Method} {c : Code} {D : va_G} {cI cL cS cH : ClassId} {A : Nat → Prop} {d : Nat} {a : Nat → Nat} (hd : 3 ≤ d) (C0 : mm_Cx p s m args meth c RX5 cX5_wear 7 none D (mm_T cI cL cS cH) A) (hA : ∀ q, s.heap.size ≤ q → A q) {v_rows : Int32} {v_cols : Int32} {v_high : Int32} {v_wide : Int32} {v_folds : Int32} {v_rowOf : List Int32} {v_colOf : List Int32} {v_below : List Int32} {v_face : List Int32} {v_tall : List Int32} {p3_size : Int32} {p3_draftCount : Int32} {p3_place : Int32} {p3_fault : Int32} {p3_tape : List Int32} {p3_draft : List Int32} {w_wrong : Int32} {w_more : Int32} {w_worn : List Int32} {w_last : List Int32} {wp3_stacked : Int32} {wp3_stack : List Int32} (N : Nat)  : ∀ (x1 : Int32) (x2 : Int32) (s0 : Int32) (v_wrong : Int32) (v_more : Int32) (v_worn : List Int32) (v_last : List Int32) (v_bend : List Int32) (p3_stepCount : Int32) (p3_stacked : Int32) (p3_steps : List Int32) (p3_stack : List Int32) (H : Heap) (locs : List Loc) (ls : Array Slot), fX5_wear_29 N x1 x2 s0 v_wrong v_more v_worn v_last v_bend p3_stepCount p3_stacked p3_steps p3_stack = some (w_wrong, w_more, w_worn, w_last, wp3_stacked, wp3_stack) → va_P D mm_cl (wd_X5 cI cL cS cH a v_rows v_cols v_high v_wide v_folds v_wrong v_more v_rowOf v_colOf v_below v_face v_worn v_last v_bend v_tall ++ wd_X2 cI cL cS cH (fun k => a (k + 9)) p3_size p3_stepCount p3_draftCount p3_place p3_fault p3_stacked p3_tape p3_steps p3_draft p3_stack) H → va_D A (wd_X5 cI cL cS cH a v_rows v_cols v_high v_wide v_folds v_wrong v_more v_rowOf v_colOf v_below v_face v_worn v_last v_bend v_tall ++ wd_X2 cI cL cS cH (fun k => a (k + 9)) p3_size p3_stepCount p3_draftCount p3_place p3_fault p3_stacked p3_tape p3_steps p3_draft p3_stack) → va_S A s.heap H locs → lv_has ls 7 [(0, .ref (a 0)), (1, .int x1), (2, .int x2), (3, .ref (a 9))] → W p l e (mm_rr d) s m args below meth c H locs 0 0 (mm_Z below D A (wd_X5 cI cL cS cH a v_rows v_cols v_high v_wide v_folds w_wrong w_more v_rowOf v_colOf v_below v_face w_worn w_last v_bend v_tall ++ wd_X2 cI cL cS cH (fun k => a (k + 9)) p3_size p3_stepCount p3_draftCount p3_place p3_fault wp3_stacked p3_tape p3_steps p3_draft wp3_stack) none args s) (F0 m 29 ls [.int s0]) := by
  obtain ⟨hx, hb, hml, hown, hts, hr, hlocks, hK, hSt⟩ := id C0
  intro x1 x2 s0 v_wrong v_more v_worn v_last v_bend p3_stepCount p3_stacked p3_steps p3_stack H locs ls hf hP hD hS hl
  unfold fX5_wear_29 at hf
  refine lv_istore (lv' := [(4, .int s0), (0, .ref (a 0)), (1, .int x1), (2, .int x2), (3, .ref (a 9))]) hx hb dX5_wear_29 hl (by decide) rfl (fun ls hl => ?_)
  refine lv_aload_n hx hb dX5_wear_31 rfl (lv_at hl 1 rfl) ?_
  refine mm_get C0 hP iw_X5 0 rfl rfl 11 (by decide) fl_X5_24 rfl dX5_wear_32 ?_
  refine lv_iload_n hx hb dX5_wear_35 rfl (lv_at hl 2 rfl) ?_
  obtain ⟨h_6, hf⟩ := mm_cks hf
  refine mm_iald C0 hP 5 rfl h_6 dX5_wear_36 ?_
  refine lv_topi (fun y_7 ey_7 => ?_)
  have hf := mm_nms hf ey_7
  refine lv_istore (lv' := [(5, .int y_7), (4, .int s0), (0, .ref (a 0)), (1, .int x1), (2, .int x2), (3, .ref (a 9))]) hx hb dX5_wear_37 hl (by decide) rfl (fun ls hl => ?_)
  refine lv_aload_n hx hb dX5_wear_39 rfl (lv_at hl 5 rfl) ?_
  refine lv_iload_n hx hb dX5_wear_40 rfl (lv_at hl 4 rfl) ?_
  refine lv_iload hx hb dX5_wear_41 (lv_at hl 0 rfl) ?_
  refine lv_iload hx hb dX5_wear_43 (lv_at hl 1 rfl) ?_
  refine lv_iload_n hx hb dX5_wear_45 rfl (lv_at hl 3 rfl) ?_
  refine lv_iconst (v := 2) hx hb dX5_wear_46 (by decide) ?_
  obtain ⟨h_8, hf⟩ := mm_cks hf
  refine lv_irem hx hb dX5_wear_47 (mm_nzs h_8) ?_
  refine lv_iload_n hx hb dX5_wear_48 rfl (lv_at hl 3 rfl) ?_
  refine lv_iconst (v := 2) hx hb dX5_wear_49 (by decide) ?_
  obtain ⟨h_9, hf⟩ := mm_cks hf
  refine lv_idiv hx hb dX5_wear_50 (mm_nzs h_9) ?_
  refine lv_aload_n hx hb dX5_wear_51 rfl (lv_at hl 2 rfl) ?_
  refine mm_get C0 hP iw_X5 0 rfl rfl 13 (by decide) fl_X5_30 rfl dX5_wear_52 ?_
  refine lv_iload_n hx hb dX5_wear_55 rfl (lv_at hl 3 rfl) ?_
  obtain ⟨h_10, hf⟩ := mm_cks hf
  refine mm_iald C0 hP 7 rfl h_10 dX5_wear_56 ?_
  obtain ⟨r_11, w_12, w_13, hc_14, hf⟩ := mm_bd3s hf
  refine mm_callW (q0 := 9) (ci := 2) (w2 := (wd_X5 cI cL cS cH a v_rows v_cols v_high v_wide v_folds v_wrong v_more v_rowOf v_colOf v_below v_face v_worn v_last v_bend v_tall ++ wd_X2 cI cL cS cH (fun k => a (k + 9)) p3_size p3_stepCount p3_draftCount p3_place p3_fault w_12 p3_tape p3_steps p3_draft w_13)) (rest := []) C0 lk_X5_150 (ctX2_worth (a := (fun k => a (k + 9))) (d := d - 1) (by omega) hc_14) (by omega) rfl hl.1 rfl (mm_cat rfl) dX5_wear_57 hP hD hA hS rfl rfl [false, false, false, false, false, false, false, false, false, true, true, true, true, true] rfl rfl rfl rfl (fun H locs hP hD hS => ?_)
  refine W.eq (g2 := F0 m 60 ls [.int r_11]) rfl ?_
  refine lv_istore (lv' := [(6, .int r_11), (5, .int y_7), (4, .int s0), (0, .ref (a 0)), (1, .int x1), (2, .int x2), (3, .ref (a 9))]) hx hb dX5_wear_60 hl (by decide) rfl (fun ls hl => ?_)
  refine lv_aload_n hx hb dX5_wear_62 rfl (lv_at hl 3 rfl) ?_
  refine mm_get C0 hP iw_X5 0 rfl rfl 11 (by decide) fl_X5_24 rfl dX5_wear_63 ?_
  refine lv_iload_n hx hb dX5_wear_66 rfl (lv_at hl 4 rfl) ?_
  refine lv_bipush (v := 99) hx hb dX5_wear_67 (by decide) ?_
  refine lv_iload hx hb dX5_wear_69 (lv_at hl 1 rfl) ?_
  refine lv_iload hx hb dX5_wear_71 (lv_at hl 0 rfl) ?_
  refine lv_iadd hx hb dX5_wear_73 ?_
  refine mm_mmin C0 lm_X5_156 (by omega) hl.1 (mm_cat rfl) dX5_wear_74 ?_
  refine lv_topi (fun y_15 ey_15 => ?_)
  have hf := mm_nms hf ey_15
  obtain ⟨h_16, hf⟩ := mm_cks hf
  refine mm_iast C0 hP hD hS 5 rfl h_16 dX5_wear_77 (w2 := (wd_X5 cI cL cS cH a v_rows v_cols v_high v_wide v_folds v_wrong v_more v_rowOf v_colOf v_below v_face (mm_is v_worn x1 y_15) v_last v_bend v_tall ++ wd_X2 cI cL cS cH (fun k => a (k + 9)) p3_size p3_stepCount p3_draftCount p3_place p3_fault w_12 p3_tape p3_steps p3_draft w_13)) rfl (fun H locs hP hD hS => ?_)
  generalize el_17 : (mm_is v_worn x1 y_15) = l_17 at hP hD
  have hf := mm_nms hf el_17.symm
  refine lv_aload_n hx hb dX5_wear_78 rfl (lv_at hl 3 rfl) ?_
  refine mm_get C0 hP iw_X5 0 rfl rfl 12 (by decide) fl_X5_27 rfl dX5_wear_79 ?_
  refine lv_iload_n hx hb dX5_wear_82 rfl (lv_at hl 4 rfl) ?_
  refine lv_aload_n hx hb dX5_wear_83 rfl (lv_at hl 3 rfl) ?_
  refine mm_get C0 hP iw_X5 0 rfl rfl 13 (by decide) fl_X5_30 rfl dX5_wear_84 ?_
  refine lv_iload_n hx hb dX5_wear_87 rfl (lv_at hl 4 rfl) ?_
  obtain ⟨h_18, hf⟩ := mm_cks hf
  refine mm_iald C0 hP 7 rfl h_18 dX5_wear_88 ?_
  refine lv_topi (fun y_19 ey_19 => ?_)
  have hf := mm_nms hf ey_19
  obtain ⟨h_20, hf⟩ := mm_cks hf
  refine mm_iast C0 hP hD hS 6 rfl h_20 dX5_wear_89 (w2 := (wd_X5 cI cL cS cH a v_rows v_cols v_high v_wide v_folds v_wrong v_more v_rowOf v_colOf v_below v_face l_17 (mm_is v_last x1 y_19) v_bend v_tall ++ wd_X2 cI cL cS cH (fun k => a (k + 9)) p3_size p3_stepCount p3_draftCount p3_place p3_fault w_12 p3_tape p3_steps p3_draft w_13)) rfl (fun H locs hP hD hS => ?_)
  generalize el_21 : (mm_is v_last x1 y_19) = l_21 at hP hD
  have hf := mm_nms hf el_21.symm
  refine lv_aload_n hx hb dX5_wear_90 rfl (lv_at hl 3 rfl) ?_
  refine lv_dup hx hb dX5_wear_91 rfl ?_
  refine mm_get C0 hP iw_X5 0 rfl rfl 6 (by decide) fl_X5_65 rfl dX5_wear_92 ?_
  refine lv_aload_n hx hb dX5_wear_95 rfl (lv_at hl 3 rfl) ?_
  refine mm_get C0 hP iw_X5 0 rfl rfl 11 (by decide) fl_X5_24 rfl dX5_wear_96 ?_
  refine lv_iload_n hx hb dX5_wear_99 rfl (lv_at hl 4 rfl) ?_
  obtain ⟨h_22, hf⟩ := mm_cks hf
  refine mm_iald C0 hP 5 rfl h_22 dX5_wear_100 ?_
  refine lv_iload hx hb dX5_wear_101 (lv_at hl 1 rfl) ?_
  refine lv_isub hx hb dX5_wear_103 ?_
  refine lv_iadd hx hb dX5_wear_104 ?_
  refine lv_topi (fun y_23 ey_23 => ?_)
  have hf := mm_nms hf ey_23
  refine mm_put C0 hP hD hS iw_X5 tyX5 tyX5_ok nmX5 0 rfl rfl 6 (by decide) fl_X5_65 rfl rfl rfl (Nat.le_of_ble_eq_true rfl) dX5_wear_105 (w2 := (wd_X5 cI cL cS cH a v_rows v_cols v_high v_wide v_folds v_wrong y_23 v_rowOf v_colOf v_below v_face l_17 l_21 v_bend v_tall ++ wd_X2 cI cL cS cH (fun k => a (k + 9)) p3_size p3_stepCount p3_draftCount p3_place p3_fault w_12 p3_tape p3_steps p3_draft w_13)) rfl (fun H locs hP hD hS => ?_)
  refine lv_aload_n hx hb dX5_wear_108 rfl (lv_at hl 3 rfl) ?_
  refine lv_dup hx hb dX5_wear_109 rfl ?_
  refine mm_get C0 hP iw_X5 0 rfl rfl 5 (by decide) fl_X5_62 rfl dX5_wear_110 ?_
  refine lv_iload hx hb dX5_wear_113 (lv_at hl 2 rfl) ?_
  refine lv_iadd hx hb dX5_wear_115 ?_
  refine lv_topi (fun y_24 ey_24 => ?_)
  have hf := mm_nms hf ey_24
  refine mm_put C0 hP hD hS iw_X5 tyX5 tyX5_ok nmX5 0 rfl rfl 5 (by decide) fl_X5_62 rfl rfl rfl (Nat.le_of_ble_eq_true rfl) dX5_wear_116 (w2 := (wd_X5 cI cL cS cH a v_rows v_cols v_high v_wide v_folds y_24 y_23 v_rowOf v_colOf v_below v_face l_17 l_21 v_bend v_tall ++ wd_X2 cI cL cS cH (fun k => a (k + 9)) p3_size p3_stepCount p3_draftCount p3_place p3_fault w_12 p3_tape p3_steps p3_draft w_13)) rfl (fun H locs hP hD hS => ?_)
  apply mm_sub6 hf
  exact mm_vret C0 hP hD hS dX5_wear_119

def fX5_wear_28 (N : Nat)  (x1 : Int32) (x2 : Int32) (v_wrong : Int32) (v_more : Int32) (v_worn : List Int32) (v_last : List Int32) (v_bend : List Int32) (p3_stepCount : Int32) (p3_stacked : Int32) (p3_steps : List Int32) (p3_stack : List Int32) : Option (Int32 × Int32 × List Int32 × List Int32 × Int32 × List Int32) :=
    fX5_wear_29 N x1 x2 (0 : Int32) v_wrong v_more v_worn v_last v_bend p3_stepCount p3_stacked p3_steps p3_stack

set_option maxHeartbeats 4000000 in
set_option maxRecDepth 100000 in
theorem tX5_wear_28 {p : Program} {l : Launch} {e : Env} {s : State} {m : MethodId} {args : Array Value} {below : List Frame} {meth : Method} {c : Code} {D : va_G} {cI cL cS cH : ClassId} {A : Nat → Prop} {d : Nat} {a : Nat → Nat} (hd : 3 ≤ d) (C0 : mm_Cx p s m args meth c RX5 cX5_wear 7 none D (mm_T cI cL cS cH) A) (hA : ∀ q, s.heap.size ≤ q → A q) {v_rows : Int32} {v_cols : Int32} {v_high : Int32} {v_wide : Int32} {v_folds : Int32} {v_rowOf : List Int32} {v_colOf : List Int32} {v_below : List Int32} {v_face : List Int32} {v_tall : List Int32} {p3_size : Int32} {p3_draftCount : Int32} {p3_place : Int32} {p3_fault : Int32} {p3_tape : List Int32} {p3_draft : List Int32} {w_wrong : Int32} {w_more : Int32} {w_worn : List Int32} {w_last : List Int32} {wp3_stacked : Int32} {wp3_stack : List Int32} (N : Nat)  : ∀ (x1 : Int32) (x2 : Int32) (v_wrong : Int32) (v_more : Int32) (v_worn : List Int32) (v_last : List Int32) (v_bend : List Int32) (p3_stepCount : Int32) (p3_stacked : Int32) (p3_steps : List Int32) (p3_stack : List Int32) (H : Heap) (locs : List Loc) (ls : Array Slot), fX5_wear_28 N x1 x2 v_wrong v_more v_worn v_last v_bend p3_stepCount p3_stacked p3_steps p3_stack = some (w_wrong, w_more, w_worn, w_last, wp3_stacked, wp3_stack) → va_P D mm_cl (wd_X5 cI cL cS cH a v_rows v_cols v_high v_wide v_folds v_wrong v_more v_rowOf v_colOf v_below v_face v_worn v_last v_bend v_tall ++ wd_X2 cI cL cS cH (fun k => a (k + 9)) p3_size p3_stepCount p3_draftCount p3_place p3_fault p3_stacked p3_tape p3_steps p3_draft p3_stack) H → va_D A (wd_X5 cI cL cS cH a v_rows v_cols v_high v_wide v_folds v_wrong v_more v_rowOf v_colOf v_below v_face v_worn v_last v_bend v_tall ++ wd_X2 cI cL cS cH (fun k => a (k + 9)) p3_size p3_stepCount p3_draftCount p3_place p3_fault p3_stacked p3_tape p3_steps p3_draft p3_stack) → va_S A s.heap H locs → lv_has ls 7 [(0, .ref (a 0)), (1, .int x1), (2, .int x2), (3, .ref (a 9))] → W p l e (mm_rr d) s m args below meth c H locs 0 0 (mm_Z below D A (wd_X5 cI cL cS cH a v_rows v_cols v_high v_wide v_folds w_wrong w_more v_rowOf v_colOf v_below v_face w_worn w_last v_bend v_tall ++ wd_X2 cI cL cS cH (fun k => a (k + 9)) p3_size p3_stepCount p3_draftCount p3_place p3_fault wp3_stacked p3_tape p3_steps p3_draft wp3_stack) none args s) (F0 m 28 ls []) := by
  obtain ⟨hx, hb, hml, hown, hts, hr, hlocks, hK, hSt⟩ := id C0
  intro x1 x2 v_wrong v_more v_worn v_last v_bend p3_stepCount p3_stacked p3_steps p3_stack H locs ls hf hP hD hS hl
  unfold fX5_wear_28 at hf
  refine lv_iconst (v := 0) hx hb dX5_wear_28 (by decide) ?_
  exact tX5_wear_29 hd C0 hA N  _ _ _ _ _ _ _ _ _ _ _ _ H locs ls hf hP hD hS (lv_sub hl [0, 1, 2, 3] rfl)

def fX5_wear (N : Nat) (x1 : Int32) (x2 : Int32) (v_wrong : Int32) (v_more : Int32) (v_worn : List Int32) (v_last : List Int32) (v_bend : List Int32) (p3_stepCount : Int32) (p3_stacked : Int32) (p3_steps : List Int32) (p3_stack : List Int32) : Option (Int32 × Int32 × List Int32 × List Int32 × Int32 × List Int32) :=
    mm_ck (mm_inb x1 v_last.length) (if (mm_ig v_last x1) = 0 then
    (fX5_wear_28 N x1 x2 v_wrong v_more v_worn v_last v_bend p3_stepCount p3_stacked p3_steps p3_stack)
    else (mm_ck (mm_inb x1 v_last.length) (mm_ck (mm_inb x1 v_bend.length) (if (mm_ig v_last x1) = (mm_ig v_bend x1) then
    (fX5_wear_28 N x1 x2 v_wrong v_more v_worn v_last v_bend p3_stepCount p3_stacked p3_steps p3_stack)
    else (fX5_wear_29 N x1 x2 (1 : Int32) v_wrong v_more v_worn v_last v_bend p3_stepCount p3_stacked p3_steps p3_stack)))))

set_option maxHeartbeats 4000000 in
set_option maxRecDepth 100000 in
theorem ctX5_wear {l : Launch} {D : va_G} {cI cL cS cH : ClassId} {a : Nat → Nat} {x1 : Int32} {x2 : Int32} {v_rows : Int32} {v_cols : Int32} {v_high : Int32} {v_wide : Int32} {v_folds : Int32} {v_wrong : Int32} {v_more : Int32} {v_rowOf : List Int32} {v_colOf : List Int32} {v_below : List Int32} {v_face : List Int32} {v_worn : List Int32} {v_last : List Int32} {v_bend : List Int32} {v_tall : List Int32} {p3_size : Int32} {p3_stepCount : Int32} {p3_draftCount : Int32} {p3_place : Int32} {p3_fault : Int32} {p3_stacked : Int32} {p3_tape : List Int32} {p3_steps : List Int32} {p3_draft : List Int32} {p3_stack : List Int32} {w_wrong : Int32} {w_more : Int32} {w_worn : List Int32} {w_last : List Int32} {wp3_stacked : Int32} {wp3_stack : List Int32} {N d : Nat} (hd : 3 ≤ d) (hf : fX5_wear N x1 x2 v_wrong v_more v_worn v_last v_bend p3_stepCount p3_stacked p3_steps p3_stack = some (w_wrong, w_more, w_worn, w_last, wp3_stacked, wp3_stack)) : mm_Ct l yX5_wear cX5_wear 7 none d D (mm_T cI cL cS cH) [.ref (a 0), .int x1, .int x2, .ref (a 9)] (wd_X5 cI cL cS cH a v_rows v_cols v_high v_wide v_folds v_wrong v_more v_rowOf v_colOf v_below v_face v_worn v_last v_bend v_tall ++ wd_X2 cI cL cS cH (fun k => a (k + 9)) p3_size p3_stepCount p3_draftCount p3_place p3_fault p3_stacked p3_tape p3_steps p3_draft p3_stack) (wd_X5 cI cL cS cH a v_rows v_cols v_high v_wide v_folds w_wrong w_more v_rowOf v_colOf v_below v_face w_worn w_last v_bend v_tall ++ wd_X2 cI cL cS cH (fun k => a (k + 9)) p3_size p3_stepCount p3_draftCount p3_place p3_fault wp3_stacked p3_tape p3_steps p3_draft wp3_stack) none := by
  refine mm_of (by decide) (Nat.le_of_ble_eq_true rfl) ?_
  intro p e s m args below meth c A H locs ls C0 hP hD hA hS hl
  have C0 : mm_Cx p s m args meth c RX5 cX5_wear 7 none D (mm_T cI cL cS cH) A := C0
  obtain ⟨hx, hb, hml, hown, hts, hr, hlocks, hK, hSt⟩ := id C0
  have hl : lv_has ls 7 [(0, .ref (a 0)), (1, .int x1), (2, .int x2), (3, .ref (a 9))] := hl
  unfold fX5_wear at hf
  refine lv_aload_n hx hb dX5_wear_0 rfl (lv_at hl 0 rfl) ?_
  refine mm_get C0 hP iw_X5 0 rfl rfl 12 (by decide) fl_X5_27 rfl dX5_wear_1 ?_
  refine lv_iload_n hx hb dX5_wear_4 rfl (lv_at hl 1 rfl) ?_
  obtain ⟨h_1, hf⟩ := mm_cks hf
  refine mm_iald C0 hP 6 rfl h_1 dX5_wear_5 ?_
  refine lv_if_eq (tgt := 28) hx hb dX5_wear_6 (by decide) (fun c_2 => ?_) (fun c_2 => ?_)
  · have hf := mm_ip hf c_2
    exact tX5_wear_28 hd C0 hA N  _ _ _ _ _ _ _ _ _ _ _ H locs ls hf hP hD hS (lv_sub hl [0, 1, 2, 3] rfl)
  · have hf := mm_in hf c_2
    refine lv_aload_n hx hb dX5_wear_9 rfl (lv_at hl 0 rfl) ?_
    refine mm_get C0 hP iw_X5 0 rfl rfl 12 (by decide) fl_X5_27 rfl dX5_wear_10 ?_
    refine lv_iload_n hx hb dX5_wear_13 rfl (lv_at hl 1 rfl) ?_
    obtain ⟨h_3, hf⟩ := mm_cks hf
    refine mm_iald C0 hP 6 rfl h_3 dX5_wear_14 ?_
    refine lv_aload_n hx hb dX5_wear_15 rfl (lv_at hl 0 rfl) ?_
    refine mm_get C0 hP iw_X5 0 rfl rfl 13 (by decide) fl_X5_30 rfl dX5_wear_16 ?_
    refine lv_iload_n hx hb dX5_wear_19 rfl (lv_at hl 1 rfl) ?_
    obtain ⟨h_4, hf⟩ := mm_cks hf
    refine mm_iald C0 hP 7 rfl h_4 dX5_wear_20 ?_
    refine lv_icmp_eq (tgt := 28) hx hb dX5_wear_21 (by decide) (fun c_5 => ?_) (fun c_5 => ?_)
    · have hf := mm_ip hf c_5
      exact tX5_wear_28 hd C0 hA N  _ _ _ _ _ _ _ _ _ _ _ H locs ls hf hP hD hS (lv_sub hl [0, 1, 2, 3] rfl)
    · have hf := mm_in hf c_5
      refine lv_iconst (v := 1) hx hb dX5_wear_24 (by decide) ?_
      refine lv_goto (tgt := 29) hx hb dX5_wear_25 (by decide) ?_
      exact tX5_wear_29 hd C0 hA N  _ _ _ _ _ _ _ _ _ _ _ _ H locs ls hf hP hD hS (lv_sub hl [0, 1, 2, 3] rfl)

theorem nb_dX5_bendAndTurn_0 : bls_w cX5_bendAndTurn [(0, [42]), (1, [27]), (2, [28]), (3, [29]), (4, [182, 0, 121]), (7, [54, 5]), (9, [3]), (10, [54, 6]), (12, [21, 6]), (14, [5]), (15, [42]), (16, [182, 0, 84])] := bls_of (by decide +kernel)
theorem dX5_bendAndTurn_0 : decode cX5_bendAndTurn 0 = .ok (.aload_n 0, 1) := op_42 nb_dX5_bendAndTurn_0.1
theorem dX5_bendAndTurn_1 : decode cX5_bendAndTurn 1 = .ok (.iload_n 1, 1) := op_27 nb_dX5_bendAndTurn_0.2.1
theorem dX5_bendAndTurn_2 : decode cX5_bendAndTurn 2 = .ok (.iload_n 2, 1) := op_28 nb_dX5_bendAndTurn_0.2.2.1
theorem dX5_bendAndTurn_3 : decode cX5_bendAndTurn 3 = .ok (.iload_n 3, 1) := op_29 nb_dX5_bendAndTurn_0.2.2.2.1
set_option maxRecDepth 100000 in
theorem dX5_bendAndTurn_4 : decode cX5_bendAndTurn 4 = .ok (.invokevirtual 121, 3) := (op_182 nb_dX5_bendAndTurn_0.2.2.2.2.1).trans rfl
set_option maxRecDepth 100000 in
theorem dX5_bendAndTurn_7 : decode cX5_bendAndTurn 7 = .ok (.istore 5, 2) := (op_54 nb_dX5_bendAndTurn_0.2.2.2.2.2.1).trans rfl
theorem dX5_bendAndTurn_9 : decode cX5_bendAndTurn 9 = .ok (.iconst 0, 1) := op_3 nb_dX5_bendAndTurn_0.2.2.2.2.2.2.1
set_option maxRecDepth 100000 in
theorem dX5_bendAndTurn_10 : decode cX5_bendAndTurn 10 = .ok (.istore 6, 2) := (op_54 nb_dX5_bendAndTurn_0.2.2.2.2.2.2.2.1).trans rfl
set_option maxRecDepth 100000 in
theorem dX5_bendAndTurn_12 : decode cX5_bendAndTurn 12 = .ok (.iload 6, 2) := (op_21 nb_dX5_bendAndTurn_0.2.2.2.2.2.2.2.2.1).trans rfl
theorem dX5_bendAndTurn_14 : decode cX5_bendAndTurn 14 = .ok (.iconst 2, 1) := op_5 nb_dX5_bendAndTurn_0.2.2.2.2.2.2.2.2.2.1
theorem dX5_bendAndTurn_15 : decode cX5_bendAndTurn 15 = .ok (.aload_n 0, 1) := op_42 nb_dX5_bendAndTurn_0.2.2.2.2.2.2.2.2.2.2.1
set_option maxRecDepth 100000 in
theorem dX5_bendAndTurn_16 : decode cX5_bendAndTurn 16 = .ok (.invokevirtual 84, 3) := (op_182 nb_dX5_bendAndTurn_0.2.2.2.2.2.2.2.2.2.2.2.1).trans rfl
theorem nb_dX5_bendAndTurn_19 : bls_w cX5_bendAndTurn [(19, [104]), (20, [162, 0, 29]), (23, [42]), (24, [180, 0, 30]), (27, [21, 6]), (29, [46]), (30, [153, 0, 13]), (33, [42]), (34, [21, 6]), (36, [21, 5]), (38, [25, 4]), (40, [182, 0, 124])] := bls_of (by decide +kernel)
theorem dX5_bendAndTurn_19 : decode cX5_bendAndTurn 19 = .ok (.imul, 1) := op_104 nb_dX5_bendAndTurn_19.1
set_option maxRecDepth 100000 in
theorem dX5_bendAndTurn_20 : decode cX5_bendAndTurn 20 = .ok (.if_icmp .ge 29, 3) := (op_162 nb_dX5_bendAndTurn_19.2.1).trans rfl
theorem dX5_bendAndTurn_23 : decode cX5_bendAndTurn 23 = .ok (.aload_n 0, 1) := op_42 nb_dX5_bendAndTurn_19.2.2.1
set_option maxRecDepth 100000 in
theorem dX5_bendAndTurn_24 : decode cX5_bendAndTurn 24 = .ok (.getfield 30, 3) := (op_180 nb_dX5_bendAndTurn_19.2.2.2.1).trans rfl
set_option maxRecDepth 100000 in
theorem dX5_bendAndTurn_27 : decode cX5_bendAndTurn 27 = .ok (.iload 6, 2) := (op_21 nb_dX5_bendAndTurn_19.2.2.2.2.1).trans rfl
theorem dX5_bendAndTurn_29 : decode cX5_bendAndTurn 29 = .ok (.iaload, 1) := op_46 nb_dX5_bendAndTurn_19.2.2.2.2.2.1
set_option maxRecDepth 100000 in
theorem dX5_bendAndTurn_30 : decode cX5_bendAndTurn 30 = .ok (.ifCond .eq 13, 3) := (op_153 nb_dX5_bendAndTurn_19.2.2.2.2.2.2.1).trans rfl
theorem dX5_bendAndTurn_33 : decode cX5_bendAndTurn 33 = .ok (.aload_n 0, 1) := op_42 nb_dX5_bendAndTurn_19.2.2.2.2.2.2.2.1
set_option maxRecDepth 100000 in
theorem dX5_bendAndTurn_34 : decode cX5_bendAndTurn 34 = .ok (.iload 6, 2) := (op_21 nb_dX5_bendAndTurn_19.2.2.2.2.2.2.2.2.1).trans rfl
set_option maxRecDepth 100000 in
theorem dX5_bendAndTurn_36 : decode cX5_bendAndTurn 36 = .ok (.iload 5, 2) := (op_21 nb_dX5_bendAndTurn_19.2.2.2.2.2.2.2.2.2.1).trans rfl
set_option maxRecDepth 100000 in
theorem dX5_bendAndTurn_38 : decode cX5_bendAndTurn 38 = .ok (.aload 4, 2) := (op_25 nb_dX5_bendAndTurn_19.2.2.2.2.2.2.2.2.2.2.1).trans rfl
set_option maxRecDepth 100000 in
theorem dX5_bendAndTurn_40 : decode cX5_bendAndTurn 40 = .ok (.invokevirtual 124, 3) := (op_182 nb_dX5_bendAndTurn_19.2.2.2.2.2.2.2.2.2.2.2.1).trans rfl
theorem nb_dX5_bendAndTurn_43 : bls_w cX5_bendAndTurn [(43, [132, 6, 1]), (46, [167, 255, 222]), (49, [42]), (50, [27]), (51, [28]), (52, [182, 0, 128]), (55, [42]), (56, [89]), (57, [180, 0, 59]), (60, [4]), (61, [96]), (62, [181, 0, 59])] := bls_of (by decide +kernel)
set_option maxRecDepth 100000 in
theorem dX5_bendAndTurn_43 : decode cX5_bendAndTurn 43 = .ok (.iinc 6 1, 3) := (op_132 nb_dX5_bendAndTurn_43.1).trans rfl
set_option maxRecDepth 100000 in
theorem dX5_bendAndTurn_46 : decode cX5_bendAndTurn 46 = .ok (.goto (-34), 3) := (op_167 nb_dX5_bendAndTurn_43.2.1).trans rfl
theorem dX5_bendAndTurn_49 : decode cX5_bendAndTurn 49 = .ok (.aload_n 0, 1) := op_42 nb_dX5_bendAndTurn_43.2.2.1
theorem dX5_bendAndTurn_50 : decode cX5_bendAndTurn 50 = .ok (.iload_n 1, 1) := op_27 nb_dX5_bendAndTurn_43.2.2.2.1
theorem dX5_bendAndTurn_51 : decode cX5_bendAndTurn 51 = .ok (.iload_n 2, 1) := op_28 nb_dX5_bendAndTurn_43.2.2.2.2.1
set_option maxRecDepth 100000 in
theorem dX5_bendAndTurn_52 : decode cX5_bendAndTurn 52 = .ok (.invokevirtual 128, 3) := (op_182 nb_dX5_bendAndTurn_43.2.2.2.2.2.1).trans rfl
theorem dX5_bendAndTurn_55 : decode cX5_bendAndTurn 55 = .ok (.aload_n 0, 1) := op_42 nb_dX5_bendAndTurn_43.2.2.2.2.2.2.1
theorem dX5_bendAndTurn_56 : decode cX5_bendAndTurn 56 = .ok (.dup, 1) := op_89 nb_dX5_bendAndTurn_43.2.2.2.2.2.2.2.1
set_option maxRecDepth 100000 in
theorem dX5_bendAndTurn_57 : decode cX5_bendAndTurn 57 = .ok (.getfield 59, 3) := (op_180 nb_dX5_bendAndTurn_43.2.2.2.2.2.2.2.2.1).trans rfl
theorem dX5_bendAndTurn_60 : decode cX5_bendAndTurn 60 = .ok (.iconst 1, 1) := op_4 nb_dX5_bendAndTurn_43.2.2.2.2.2.2.2.2.2.1
theorem dX5_bendAndTurn_61 : decode cX5_bendAndTurn 61 = .ok (.iadd, 1) := op_96 nb_dX5_bendAndTurn_43.2.2.2.2.2.2.2.2.2.2.1
set_option maxRecDepth 100000 in
theorem dX5_bendAndTurn_62 : decode cX5_bendAndTurn 62 = .ok (.putfield 59, 3) := (op_181 nb_dX5_bendAndTurn_43.2.2.2.2.2.2.2.2.2.2.2.1).trans rfl
theorem nb_dX5_bendAndTurn_65 : bls_w cX5_bendAndTurn [(65, [21, 5]), (67, [172])] := bls_of (by decide +kernel)
set_option maxRecDepth 100000 in
theorem dX5_bendAndTurn_65 : decode cX5_bendAndTurn 65 = .ok (.iload 5, 2) := (op_21 nb_dX5_bendAndTurn_65.1).trans rfl
theorem dX5_bendAndTurn_67 : decode cX5_bendAndTurn 67 = .ok (.ireturn, 1) := op_172 nb_dX5_bendAndTurn_65.2.1
def fX5_bendAndTurn_43 (N : Nat) (k_12 : Int32 → Int32 → Int32 → Int32 → Int32 → Int32 → Int32 → Int32 → Int32 → Int32 → Int32 → List Int32 → List Int32 → List Int32 → List Int32 → List Int32 → List Int32 → List Int32 → List Int32 → Int32 → Int32 → List Int32 → List Int32 → Option (Int32 × Int32 × Int32 × Int32 × Int32 × Int32 × List Int32 × List Int32 × List Int32 × List Int32 × List Int32 × List Int32 × List Int32 × List Int32 × Int32 × List Int32)) (x1 : Int32) (x2 : Int32) (x5 : Int32) (x6 : Int32) (v_rows : Int32) (v_cols : Int32) (v_high : Int32) (v_wide : Int32) (v_folds : Int32) (v_wrong : Int32) (v_more : Int32) (v_rowOf : List Int32) (v_colOf : List Int32) (v_below : List Int32) (v_face : List Int32) (v_worn : List Int32) (v_last : List Int32) (v_bend : List Int32) (v_tall : List Int32) (p4_stepCount : Int32) (p4_stacked : Int32) (p4_steps : List Int32) (p4_stack : List Int32) : Option (Int32 × Int32 × Int32 × Int32 × Int32 × Int32 × List Int32 × List Int32 × List Int32 × List Int32 × List Int32 × List Int32 × List Int32 × List Int32 × Int32 × List Int32) :=
    mm_nm (x6 + (1 : Int32)) (fun (y_25 : Int32) =>
    k_12 x1 x2 x5 y_25 v_rows v_cols v_high v_wide v_folds v_wrong v_more v_rowOf v_colOf v_below v_face v_worn v_last v_bend v_tall p4_stepCount p4_stacked p4_steps p4_stack)

set_option maxHeartbeats 4000000 in
set_option maxRecDepth 100000 in
theorem tX5_bendAndTurn_43 {p : Program} {l : Launch} {e : Env} {s : State} {m : MethodId} {args : Array Value} {below : List Frame} {meth : Method} {c : Code} {D : va_G} {cI cL cS cH : ClassId} {A : Nat → Prop} {d : Nat} {a : Nat → Nat} (hd : 5 ≤ d) (C0 : mm_Cx p s m args meth c RX5 cX5_bendAndTurn 7 (some .int) D (mm_T cI cL cS cH) A) (hA : ∀ q, s.heap.size ≤ q → A q) {p4_size : Int32} {p4_draftCount : Int32} {p4_place : Int32} {p4_fault : Int32} {p4_tape : List Int32} {p4_draft : List Int32} {r : Int32} {w_high : Int32} {w_wide : Int32} {w_folds : Int32} {w_wrong : Int32} {w_more : Int32} {w_rowOf : List Int32} {w_colOf : List Int32} {w_below : List Int32} {w_face : List Int32} {w_worn : List Int32} {w_last : List Int32} {w_bend : List Int32} {w_tall : List Int32} {wp4_stacked : Int32} {wp4_stack : List Int32} (N : Nat) {k_12 : Int32 → Int32 → Int32 → Int32 → Int32 → Int32 → Int32 → Int32 → Int32 → Int32 → Int32 → List Int32 → List Int32 → List Int32 → List Int32 → List Int32 → List Int32 → List Int32 → List Int32 → Int32 → Int32 → List Int32 → List Int32 → Option (Int32 × Int32 × Int32 × Int32 × Int32 × Int32 × List Int32 × List Int32 × List Int32 × List Int32 × List Int32 × List Int32 × List Int32 × List Int32 × Int32 × List Int32)} (hk_12 : ∀ (x1 : Int32) (x2 : Int32) (x5 : Int32) (x6 : Int32) (v_rows : Int32) (v_cols : Int32) (v_high : Int32) (v_wide : Int32) (v_folds : Int32) (v_wrong : Int32) (v_more : Int32) (v_rowOf : List Int32) (v_colOf : List Int32) (v_below : List Int32) (v_face : List Int32) (v_worn : List Int32) (v_last : List Int32) (v_bend : List Int32) (v_tall : List Int32) (p4_stepCount : Int32) (p4_stacked : Int32) (p4_steps : List Int32) (p4_stack : List Int32) (H : Heap) (locs : List Loc) (ls : Array Slot), k_12 x1 x2 x5 x6 v_rows v_cols v_high v_wide v_folds v_wrong v_more v_rowOf v_colOf v_below v_face v_worn v_last v_bend v_tall p4_stepCount p4_stacked p4_steps p4_stack = some (r, w_high, w_wide, w_folds, w_wrong, w_more, w_rowOf, w_colOf, w_below, w_face, w_worn, w_last, w_bend, w_tall, wp4_stacked, wp4_stack) → va_P D mm_cl (wd_X5 cI cL cS cH a v_rows v_cols v_high v_wide v_folds v_wrong v_more v_rowOf v_colOf v_below v_face v_worn v_last v_bend v_tall ++ wd_X2 cI cL cS cH (fun k => a (k + 9)) p4_size p4_stepCount p4_draftCount p4_place p4_fault p4_stacked p4_tape p4_steps p4_draft p4_stack) H → va_D A (wd_X5 cI cL cS cH a v_rows v_cols v_high v_wide v_folds v_wrong v_more v_rowOf v_colOf v_below v_face v_worn v_last v_bend v_tall ++ wd_X2 cI cL cS cH (fun k => a (k + 9)) p4_size p4_stepCount p4_draftCount p4_place p4_fault p4_stacked p4_tape p4_steps p4_draft p4_stack) → va_S A s.heap H locs → lv_has ls 7 [(0, .ref (a 0)), (1, .int x1), (2, .int x2), (4, .ref (a 9)), (5, .int x5), (6, .int x6)] → W p l e (mm_rr d) s m args below meth c H locs 0 0 (mm_Z below D A (wd_X5 cI cL cS cH a v_rows v_cols w_high w_wide w_folds w_wrong w_more w_rowOf w_colOf w_below w_face w_worn w_last w_bend w_tall ++ wd_X2 cI cL cS cH (fun k => a (k + 9)) p4_size p4_stepCount p4_draftCount p4_place p4_fault wp4_stacked p4_tape p4_steps p4_draft wp4_stack) (some (.int r)) args s) (F0 m 12 ls [])) : ∀ (x1 : Int32) (x2 : Int32) (x5 : Int32) (x6 : Int32) (v_rows : Int32) (v_cols : Int32) (v_high : Int32) (v_wide : Int32) (v_folds : Int32) (v_wrong : Int32) (v_more : Int32) (v_rowOf : List Int32) (v_colOf : List Int32) (v_below : List Int32) (v_face : List Int32) (v_worn : List Int32) (v_last : List Int32) (v_bend : List Int32) (v_tall : List Int32) (p4_stepCount : Int32) (p4_stacked : Int32) (p4_steps : List Int32) (p4_stack : List Int32) (H : Heap) (locs : List Loc) (ls : Array Slot), fX5_bendAndTurn_43 N k_12 x1 x2 x5 x6 v_rows v_cols v_high v_wide v_folds v_wrong v_more v_rowOf v_colOf v_below v_face v_worn v_last v_bend v_tall p4_stepCount p4_stacked p4_steps p4_stack = some (r, w_high, w_wide, w_folds, w_wrong, w_more, w_rowOf, w_colOf, w_below, w_face, w_worn, w_last, w_bend, w_tall, wp4_stacked, wp4_stack) → va_P D mm_cl (wd_X5 cI cL cS cH a v_rows v_cols v_high v_wide v_folds v_wrong v_more v_rowOf v_colOf v_below v_face v_worn v_last v_bend v_tall ++ wd_X2 cI cL cS cH (fun k => a (k + 9)) p4_size p4_stepCount p4_draftCount p4_place p4_fault p4_stacked p4_tape p4_steps p4_draft p4_stack) H → va_D A (wd_X5 cI cL cS cH a v_rows v_cols v_high v_wide v_folds v_wrong v_more v_rowOf v_colOf v_below v_face v_worn v_last v_bend v_tall ++ wd_X2 cI cL cS cH (fun k => a (k + 9)) p4_size p4_stepCount p4_draftCount p4_place p4_fault p4_stacked p4_tape p4_steps p4_draft p4_stack) → va_S A s.heap H locs → lv_has ls 7 [(0, .ref (a 0)), (1, .int x1), (2, .int x2), (4, .ref (a 9)), (5, .int x5), (6, .int x6)] → W p l e (mm_rr d) s m args below meth c H locs 0 0 (mm_Z below D A (wd_X5 cI cL cS cH a v_rows v_cols w_high w_wide w_folds w_wrong w_more w_rowOf w_colOf w_below w_face w_worn w_last w_bend w_tall ++ wd_X2 cI cL cS cH (fun k => a (k + 9)) p4_size p4_stepCount p4_draftCount p4_place p4_fault wp4_stacked p4_tape p4_steps p4_draft wp4_stack) (some (.int r)) args s) (F0 m 43 ls []) := by
  obtain ⟨hx, hb, hml, hown, hts, hr, hlocks, hK, hSt⟩ := id C0
  intro x1 x2 x5 x6 v_rows v_cols v_high v_wide v_folds v_wrong v_more v_rowOf v_colOf v_below v_face v_worn v_last v_bend v_tall p4_stepCount p4_stacked p4_steps p4_stack H locs ls hf hP hD hS hl
  unfold fX5_bendAndTurn_43 at hf
  obtain ⟨y_25, ey_25⟩ : ∃ z : Int32, z = x6 + (1 : Int32) := ⟨_, rfl⟩
  have hf := mm_nms hf ey_25
  refine lv_iinc (v := y_25) (lv' := [(6, .int y_25), (0, .ref (a 0)), (1, .int x1), (2, .int x2), (4, .ref (a 9)), (5, .int x5)]) hx hb dX5_bendAndTurn_43 hl (k := 5) rfl (by rw [ey_25]; rfl) (by decide) rfl (fun ls hl => ?_)
  refine lv_goto (tgt := 12) hx hb dX5_bendAndTurn_46 (by decide) ?_
  exact hk_12 _ _ _ _ _ _ _ _ _ _ _ _ _ _ _ _ _ _ _ _ _ _ _ H locs ls hf hP hD hS (lv_sub hl [1, 2, 3, 4, 5, 0] rfl)

def fX5_bendAndTurn_12 (N : Nat)  : Nat → Int32 → Int32 → Int32 → Int32 → Int32 → Int32 → Int32 → Int32 → Int32 → Int32 → Int32 → List Int32 → List Int32 → List Int32 → List Int32 → List Int32 → List Int32 → List Int32 → List Int32 → Int32 → Int32 → List Int32 → List Int32 → Option (Int32 × Int32 × Int32 × Int32 × Int32 × Int32 × List Int32 × List Int32 × List Int32 × List Int32 × List Int32 × List Int32 × List Int32 × List Int32 × Int32 × List Int32)
  | 0 => fun _ _ _ _ _ _ _ _ _ _ _ _ _ _ _ _ _ _ _ _ _ _ _ => none
  | n + 1 => fun x1 x2 x5 x6 v_rows v_cols v_high v_wide v_folds v_wrong v_more v_rowOf v_colOf v_below v_face v_worn v_last v_bend v_tall p4_stepCount p4_stacked p4_steps p4_stack =>
    mm_bd1 (fX5_fields N v_rows v_cols) (fun (r_4 : Int32) =>
    if ((2 : Int32) * r_4) ≤ x6 then
    (mm_bd7 (fX5_turn N x1 x2 v_rows v_cols v_high v_wide v_rowOf v_colOf v_below v_face v_tall) (fun (w_7 : Int32) (w_8 : Int32) (w_9 : List Int32) (w_10 : List Int32) (w_11 : List Int32) (w_12 : List Int32) (w_13 : List Int32) =>
    mm_nm ((v_folds + (1 : Int32))) (fun (y_15 : Int32) =>
    some (x5, w_7, w_8, y_15, v_wrong, v_more, w_9, w_10, w_11, w_12, v_worn, v_last, v_bend, w_13, p4_stacked, p4_stack))))
    else (mm_ck (mm_inb x6 v_bend.length) (if (mm_ig v_bend x6) = 0 then
    (fX5_bendAndTurn_43 N (fX5_bendAndTurn_12 N n) x1 x2 x5 x6 v_rows v_cols v_high v_wide v_folds v_wrong v_more v_rowOf v_colOf v_below v_face v_worn v_last v_bend v_tall p4_stepCount p4_stacked p4_steps p4_stack)
    else (mm_bd6 (fX5_wear N x6 x5 v_wrong v_more v_worn v_last v_bend p4_stepCount p4_stacked p4_steps p4_stack) (fun (w_18 : Int32) (w_19 : Int32) (w_20 : List Int32) (w_21 : List Int32) (w_22 : Int32) (w_23 : List Int32) =>
    fX5_bendAndTurn_43 N (fX5_bendAndTurn_12 N n) x1 x2 x5 x6 v_rows v_cols v_high v_wide v_folds w_18 w_19 v_rowOf v_colOf v_below v_face w_20 w_21 v_bend v_tall p4_stepCount w_22 p4_steps w_23)))))

set_option maxHeartbeats 4000000 in
set_option maxRecDepth 100000 in
theorem tX5_bendAndTurn_12 {p : Program} {l : Launch} {e : Env} {s : State} {m : MethodId} {args : Array Value} {below : List Frame} {meth : Method} {c : Code} {D : va_G} {cI cL cS cH : ClassId} {A : Nat → Prop} {d : Nat} {a : Nat → Nat} (hd : 5 ≤ d) (C0 : mm_Cx p s m args meth c RX5 cX5_bendAndTurn 7 (some .int) D (mm_T cI cL cS cH) A) (hA : ∀ q, s.heap.size ≤ q → A q) {p4_size : Int32} {p4_draftCount : Int32} {p4_place : Int32} {p4_fault : Int32} {p4_tape : List Int32} {p4_draft : List Int32} {r : Int32} {w_high : Int32} {w_wide : Int32} {w_folds : Int32} {w_wrong : Int32} {w_more : Int32} {w_rowOf : List Int32} {w_colOf : List Int32} {w_below : List Int32} {w_face : List Int32} {w_worn : List Int32} {w_last : List Int32} {w_bend : List Int32} {w_tall : List Int32} {wp4_stacked : Int32} {wp4_stack : List Int32} (N : Nat)  : ∀ (n : Nat), ∀ (x1 : Int32) (x2 : Int32) (x5 : Int32) (x6 : Int32) (v_rows : Int32) (v_cols : Int32) (v_high : Int32) (v_wide : Int32) (v_folds : Int32) (v_wrong : Int32) (v_more : Int32) (v_rowOf : List Int32) (v_colOf : List Int32) (v_below : List Int32) (v_face : List Int32) (v_worn : List Int32) (v_last : List Int32) (v_bend : List Int32) (v_tall : List Int32) (p4_stepCount : Int32) (p4_stacked : Int32) (p4_steps : List Int32) (p4_stack : List Int32) (H : Heap) (locs : List Loc) (ls : Array Slot), fX5_bendAndTurn_12 N n x1 x2 x5 x6 v_rows v_cols v_high v_wide v_folds v_wrong v_more v_rowOf v_colOf v_below v_face v_worn v_last v_bend v_tall p4_stepCount p4_stacked p4_steps p4_stack = some (r, w_high, w_wide, w_folds, w_wrong, w_more, w_rowOf, w_colOf, w_below, w_face, w_worn, w_last, w_bend, w_tall, wp4_stacked, wp4_stack) → va_P D mm_cl (wd_X5 cI cL cS cH a v_rows v_cols v_high v_wide v_folds v_wrong v_more v_rowOf v_colOf v_below v_face v_worn v_last v_bend v_tall ++ wd_X2 cI cL cS cH (fun k => a (k + 9)) p4_size p4_stepCount p4_draftCount p4_place p4_fault p4_stacked p4_tape p4_steps p4_draft p4_stack) H → va_D A (wd_X5 cI cL cS cH a v_rows v_cols v_high v_wide v_folds v_wrong v_more v_rowOf v_colOf v_below v_face v_worn v_last v_bend v_tall ++ wd_X2 cI cL cS cH (fun k => a (k + 9)) p4_size p4_stepCount p4_draftCount p4_place p4_fault p4_stacked p4_tape p4_steps p4_draft p4_stack) → va_S A s.heap H locs → lv_has ls 7 [(0, .ref (a 0)), (1, .int x1), (2, .int x2), (4, .ref (a 9)), (5, .int x5), (6, .int x6)] → W p l e (mm_rr d) s m args below meth c H locs 0 0 (mm_Z below D A (wd_X5 cI cL cS cH a v_rows v_cols w_high w_wide w_folds w_wrong w_more w_rowOf w_colOf w_below w_face w_worn w_last w_bend w_tall ++ wd_X2 cI cL cS cH (fun k => a (k + 9)) p4_size p4_stepCount p4_draftCount p4_place p4_fault wp4_stacked p4_tape p4_steps p4_draft wp4_stack) (some (.int r)) args s) (F0 m 12 ls []) := by
  obtain ⟨hx, hb, hml, hown, hts, hr, hlocks, hK, hSt⟩ := id C0
  intro n
  induction n with
  | zero =>
    intro x1 x2 x5 x6 v_rows v_cols v_high v_wide v_folds v_wrong v_more v_rowOf v_colOf v_below v_face v_worn v_last v_bend v_tall p4_stepCount p4_stacked p4_steps p4_stack H locs ls hf
    cases (show none = some _ from hf)
  | succ n ih =>
    intro x1 x2 x5 x6 v_rows v_cols v_high v_wide v_folds v_wrong v_more v_rowOf v_colOf v_below v_face v_worn v_last v_bend v_tall p4_stepCount p4_stacked p4_steps p4_stack H locs ls hf hP hD hS hl
    unfold fX5_bendAndTurn_12 at hf
    refine lv_iload hx hb dX5_bendAndTurn_12 (lv_at hl 5 rfl) ?_
    refine lv_iconst (v := 2) hx hb dX5_bendAndTurn_14 (by decide) ?_
    refine lv_aload_n hx hb dX5_bendAndTurn_15 rfl (lv_at hl 0 rfl) ?_
    obtain ⟨r_4, hc_5, hf⟩ := mm_bd1s hf
    refine mm_callW (q0 := 0) (ci := 5) (w2 := (wd_X5 cI cL cS cH a v_rows v_cols v_high v_wide v_folds v_wrong v_more v_rowOf v_colOf v_below v_face v_worn v_last v_bend v_tall ++ wd_X2 cI cL cS cH (fun k => a (k + 9)) p4_size p4_stepCount p4_draftCount p4_place p4_fault p4_stacked p4_tape p4_steps p4_draft p4_stack)) (rest := [.int (2 : Int32), .int x6]) C0 lk_X5_84 (ctX5_fields (a := (fun k => a (k + 0))) (d := d - 1) (by omega) hc_5) (by omega) rfl hl.1 rfl (mm_cat rfl) dX5_bendAndTurn_16 hP hD hA hS rfl rfl [true, true, true, true, true, true, true, true, true, false, false, false, false, false] rfl rfl rfl rfl (fun H locs hP hD hS => ?_)
    refine W.eq (g2 := F0 m 19 ls [.int r_4, .int (2 : Int32), .int x6]) rfl ?_
    refine lv_imul hx hb dX5_bendAndTurn_19 ?_
    refine lv_icmp_ge (tgt := 49) hx hb dX5_bendAndTurn_20 (by decide) (fun c_6 => ?_) (fun c_6 => ?_)
    · have hf := mm_ip hf c_6
      refine lv_aload_n hx hb dX5_bendAndTurn_49 rfl (lv_at hl 0 rfl) ?_
      refine lv_iload_n hx hb dX5_bendAndTurn_50 rfl (lv_at hl 1 rfl) ?_
      refine lv_iload_n hx hb dX5_bendAndTurn_51 rfl (lv_at hl 2 rfl) ?_
      refine mm_ct7 hf (fun w_7 w_8 w_9 w_10 w_11 w_12 w_13 hc_14 hf => ?_)
      refine mm_callW (q0 := 0) (ci := 5) (w2 := (wd_X5 cI cL cS cH a v_rows v_cols w_7 w_8 v_folds v_wrong v_more w_9 w_10 w_11 w_12 v_worn v_last v_bend w_13 ++ wd_X2 cI cL cS cH (fun k => a (k + 9)) p4_size p4_stepCount p4_draftCount p4_place p4_fault p4_stacked p4_tape p4_steps p4_draft p4_stack)) (rest := []) C0 lk_X5_128 (ctX5_turn (a := (fun k => a (k + 0))) (d := d - 1) (by omega) hc_14) (by omega) rfl hl.1 rfl (mm_cat rfl) dX5_bendAndTurn_52 hP hD hA hS rfl rfl [true, true, true, true, true, true, true, true, true, false, false, false, false, false] rfl rfl rfl rfl (fun H locs hP hD hS => ?_)
      refine W.eq (g2 := F0 m 55 ls []) rfl ?_
      refine lv_aload_n hx hb dX5_bendAndTurn_55 rfl (lv_at hl 0 rfl) ?_
      refine lv_dup hx hb dX5_bendAndTurn_56 rfl ?_
      refine mm_get C0 hP iw_X5 0 rfl rfl 4 (by decide) fl_X5_59 rfl dX5_bendAndTurn_57 ?_
      refine lv_iconst (v := 1) hx hb dX5_bendAndTurn_60 (by decide) ?_
      refine lv_iadd hx hb dX5_bendAndTurn_61 ?_
      refine lv_topi (fun y_15 ey_15 => ?_)
      have hf := mm_nms hf ey_15
      refine mm_put C0 hP hD hS iw_X5 tyX5 tyX5_ok nmX5 0 rfl rfl 4 (by decide) fl_X5_59 rfl rfl rfl (Nat.le_of_ble_eq_true rfl) dX5_bendAndTurn_62 (w2 := (wd_X5 cI cL cS cH a v_rows v_cols w_7 w_8 y_15 v_wrong v_more w_9 w_10 w_11 w_12 v_worn v_last v_bend w_13 ++ wd_X2 cI cL cS cH (fun k => a (k + 9)) p4_size p4_stepCount p4_draftCount p4_place p4_fault p4_stacked p4_tape p4_steps p4_draft p4_stack)) rfl (fun H locs hP hD hS => ?_)
      refine lv_iload hx hb dX5_bendAndTurn_65 (lv_at hl 4 rfl) ?_
      apply mm_sub16 hf
      exact mm_iret C0 hP hD hS dX5_bendAndTurn_67
    · have hf := mm_in hf c_6
      refine lv_aload_n hx hb dX5_bendAndTurn_23 rfl (lv_at hl 0 rfl) ?_
      refine mm_get C0 hP iw_X5 0 rfl rfl 13 (by decide) fl_X5_30 rfl dX5_bendAndTurn_24 ?_
      refine lv_iload hx hb dX5_bendAndTurn_27 (lv_at hl 5 rfl) ?_
      obtain ⟨h_16, hf⟩ := mm_cks hf
      refine mm_iald C0 hP 7 rfl h_16 dX5_bendAndTurn_29 ?_
      refine lv_if_eq (tgt := 43) hx hb dX5_bendAndTurn_30 (by decide) (fun c_17 => ?_) (fun c_17 => ?_)
      · have hf := mm_ip hf c_17
        exact tX5_bendAndTurn_43 hd C0 hA N ih _ _ _ _ _ _ _ _ _ _ _ _ _ _ _ _ _ _ _ _ _ _ _ H locs ls hf hP hD hS (lv_sub hl [0, 1, 2, 3, 4, 5] rfl)
      · have hf := mm_in hf c_17
        refine lv_aload_n hx hb dX5_bendAndTurn_33 rfl (lv_at hl 0 rfl) ?_
        refine lv_iload hx hb dX5_bendAndTurn_34 (lv_at hl 5 rfl) ?_
        refine lv_iload hx hb dX5_bendAndTurn_36 (lv_at hl 4 rfl) ?_
        refine lv_aload hx hb dX5_bendAndTurn_38 (lv_at hl 3 rfl) ?_
        refine mm_ct6 hf (fun w_18 w_19 w_20 w_21 w_22 w_23 hc_24 hf => ?_)
        refine mm_callVF (q0 := 0) (ci := 5) (rest := []) C0 lk_X5_124 (ctX5_wear (a := a) (d := d - 1) (by omega) hc_24) (by omega) rfl hl.1 rfl (mm_cat rfl) dX5_bendAndTurn_40 hP hD hA hS rfl rfl (fun H locs hP hD hS => ?_)
        refine W.eq (g2 := F0 m 43 ls []) rfl ?_
        exact tX5_bendAndTurn_43 hd C0 hA N ih _ _ _ _ _ _ _ _ _ _ _ _ _ _ _ _ _ _ _ _ _ _ _ H locs ls hf hP hD hS (lv_sub hl [0, 1, 2, 3, 4, 5] rfl)

def fX5_bendAndTurn (N : Nat) (x1 : Int32) (x2 : Int32) (x3 : Int32) (v_rows : Int32) (v_cols : Int32) (v_high : Int32) (v_wide : Int32) (v_folds : Int32) (v_wrong : Int32) (v_more : Int32) (v_rowOf : List Int32) (v_colOf : List Int32) (v_below : List Int32) (v_face : List Int32) (v_worn : List Int32) (v_last : List Int32) (v_bend : List Int32) (v_tall : List Int32) (p4_stepCount : Int32) (p4_stacked : Int32) (p4_steps : List Int32) (p4_stack : List Int32) : Option (Int32 × Int32 × Int32 × Int32 × Int32 × Int32 × List Int32 × List Int32 × List Int32 × List Int32 × List Int32 × List Int32 × List Int32 × List Int32 × Int32 × List Int32) :=
    mm_bd2 (fX5_markBends N x1 x2 x3 v_rows v_cols v_rowOf v_colOf v_face v_worn v_bend) (fun (r_1 : Int32) (w_2 : List Int32) =>
    fX5_bendAndTurn_12 N N x1 x2 r_1 (0 : Int32) v_rows v_cols v_high v_wide v_folds v_wrong v_more v_rowOf v_colOf v_below v_face v_worn v_last w_2 v_tall p4_stepCount p4_stacked p4_steps p4_stack)

set_option maxHeartbeats 4000000 in
set_option maxRecDepth 100000 in
theorem ctX5_bendAndTurn {l : Launch} {D : va_G} {cI cL cS cH : ClassId} {a : Nat → Nat} {x1 : Int32} {x2 : Int32} {x3 : Int32} {v_rows : Int32} {v_cols : Int32} {v_high : Int32} {v_wide : Int32} {v_folds : Int32} {v_wrong : Int32} {v_more : Int32} {v_rowOf : List Int32} {v_colOf : List Int32} {v_below : List Int32} {v_face : List Int32} {v_worn : List Int32} {v_last : List Int32} {v_bend : List Int32} {v_tall : List Int32} {p4_size : Int32} {p4_stepCount : Int32} {p4_draftCount : Int32} {p4_place : Int32} {p4_fault : Int32} {p4_stacked : Int32} {p4_tape : List Int32} {p4_steps : List Int32} {p4_draft : List Int32} {p4_stack : List Int32} {r : Int32} {w_high : Int32} {w_wide : Int32} {w_folds : Int32} {w_wrong : Int32} {w_more : Int32} {w_rowOf : List Int32} {w_colOf : List Int32} {w_below : List Int32} {w_face : List Int32} {w_worn : List Int32} {w_last : List Int32} {w_bend : List Int32} {w_tall : List Int32} {wp4_stacked : Int32} {wp4_stack : List Int32} {N d : Nat} (hd : 5 ≤ d) (hf : fX5_bendAndTurn N x1 x2 x3 v_rows v_cols v_high v_wide v_folds v_wrong v_more v_rowOf v_colOf v_below v_face v_worn v_last v_bend v_tall p4_stepCount p4_stacked p4_steps p4_stack = some (r, w_high, w_wide, w_folds, w_wrong, w_more, w_rowOf, w_colOf, w_below, w_face, w_worn, w_last, w_bend, w_tall, wp4_stacked, wp4_stack)) : mm_Ct l yX5_bendAndTurn cX5_bendAndTurn 7 (some .int) d D (mm_T cI cL cS cH) [.ref (a 0), .int x1, .int x2, .int x3, .ref (a 9)] (wd_X5 cI cL cS cH a v_rows v_cols v_high v_wide v_folds v_wrong v_more v_rowOf v_colOf v_below v_face v_worn v_last v_bend v_tall ++ wd_X2 cI cL cS cH (fun k => a (k + 9)) p4_size p4_stepCount p4_draftCount p4_place p4_fault p4_stacked p4_tape p4_steps p4_draft p4_stack) (wd_X5 cI cL cS cH a v_rows v_cols w_high w_wide w_folds w_wrong w_more w_rowOf w_colOf w_below w_face w_worn w_last w_bend w_tall ++ wd_X2 cI cL cS cH (fun k => a (k + 9)) p4_size p4_stepCount p4_draftCount p4_place p4_fault wp4_stacked p4_tape p4_steps p4_draft wp4_stack) (some (.int r)) := by
  refine mm_of (by decide) (Nat.le_of_ble_eq_true rfl) ?_
  intro p e s m args below meth c A H locs ls C0 hP hD hA hS hl
  have C0 : mm_Cx p s m args meth c RX5 cX5_bendAndTurn 7 (some .int) D (mm_T cI cL cS cH) A := C0
  obtain ⟨hx, hb, hml, hown, hts, hr, hlocks, hK, hSt⟩ := id C0
  have hl : lv_has ls 7 [(0, .ref (a 0)), (1, .int x1), (2, .int x2), (3, .int x3), (4, .ref (a 9))] := hl
  unfold fX5_bendAndTurn at hf
  refine lv_aload_n hx hb dX5_bendAndTurn_0 rfl (lv_at hl 0 rfl) ?_
  refine lv_iload_n hx hb dX5_bendAndTurn_1 rfl (lv_at hl 1 rfl) ?_
  refine lv_iload_n hx hb dX5_bendAndTurn_2 rfl (lv_at hl 2 rfl) ?_
  refine lv_iload_n hx hb dX5_bendAndTurn_3 rfl (lv_at hl 3 rfl) ?_
  obtain ⟨r_1, w_2, hc_3, hf⟩ := mm_bd2s hf
  refine mm_callW (q0 := 0) (ci := 5) (w2 := (wd_X5 cI cL cS cH a v_rows v_cols v_high v_wide v_folds v_wrong v_more v_rowOf v_colOf v_below v_face v_worn v_last w_2 v_tall ++ wd_X2 cI cL cS cH (fun k => a (k + 9)) p4_size p4_stepCount p4_draftCount p4_place p4_fault p4_stacked p4_tape p4_steps p4_draft p4_stack)) (rest := []) C0 lk_X5_121 (ctX5_markBends (a := (fun k => a (k + 0))) (d := d - 1) (by omega) hc_3) (by omega) rfl hl.1 rfl (mm_cat rfl) dX5_bendAndTurn_4 hP hD hA hS rfl rfl [true, true, true, true, true, true, true, true, true, false, false, false, false, false] rfl rfl rfl rfl (fun H locs hP hD hS => ?_)
  refine W.eq (g2 := F0 m 7 ls [.int r_1]) rfl ?_
  refine lv_istore (lv' := [(5, .int r_1), (0, .ref (a 0)), (1, .int x1), (2, .int x2), (3, .int x3), (4, .ref (a 9))]) hx hb dX5_bendAndTurn_7 hl (by decide) rfl (fun ls hl => ?_)
  refine lv_iconst (v := 0) hx hb dX5_bendAndTurn_9 (by decide) ?_
  refine lv_istore (lv' := [(6, .int (0 : Int32)), (5, .int r_1), (0, .ref (a 0)), (1, .int x1), (2, .int x2), (3, .int x3), (4, .ref (a 9))]) hx hb dX5_bendAndTurn_10 hl (by decide) rfl (fun ls hl => ?_)
  exact tX5_bendAndTurn_12 hd C0 hA N  N _ _ _ _ _ _ _ _ _ _ _ _ _ _ _ _ _ _ _ _ _ _ _ H locs ls hf hP hD hS (lv_sub hl [2, 3, 4, 6, 1, 0] rfl)

theorem nb_dX6_holdFolding_0 : bls_w cX6_holdFolding [(0, [42]), (1, [4]), (2, [181, 0, 15]), (5, [42]), (6, [27]), (7, [181, 0, 19]), (10, [177])] := bls_of (by decide +kernel)
theorem dX6_holdFolding_0 : decode cX6_holdFolding 0 = .ok (.aload_n 0, 1) := op_42 nb_dX6_holdFolding_0.1
theorem dX6_holdFolding_1 : decode cX6_holdFolding 1 = .ok (.iconst 1, 1) := op_4 nb_dX6_holdFolding_0.2.1
set_option maxRecDepth 100000 in
theorem dX6_holdFolding_2 : decode cX6_holdFolding 2 = .ok (.putfield 15, 3) := (op_181 nb_dX6_holdFolding_0.2.2.1).trans rfl
theorem dX6_holdFolding_5 : decode cX6_holdFolding 5 = .ok (.aload_n 0, 1) := op_42 nb_dX6_holdFolding_0.2.2.2.1
theorem dX6_holdFolding_6 : decode cX6_holdFolding 6 = .ok (.iload_n 1, 1) := op_27 nb_dX6_holdFolding_0.2.2.2.2.1
set_option maxRecDepth 100000 in
theorem dX6_holdFolding_7 : decode cX6_holdFolding 7 = .ok (.putfield 19, 3) := (op_181 nb_dX6_holdFolding_0.2.2.2.2.2.1).trans rfl
theorem dX6_holdFolding_10 : decode cX6_holdFolding 10 = .ok (.return_, 1) := op_177 nb_dX6_holdFolding_0.2.2.2.2.2.2.1
def fX6_holdFolding (N : Nat) (x1 : Int32) (v_holds : Int32) (v_body : Int32) : Option (Int32 × Int32) :=
    some ((1 : Int32), x1)

set_option maxHeartbeats 4000000 in
set_option maxRecDepth 100000 in
theorem ctX6_holdFolding {l : Launch} {D : va_G} {cI cL cS cH : ClassId} {a : Nat → Nat} {x1 : Int32} {v_holds : Int32} {v_body : Int32} {v_sort : Int32} {v_size : Int32} {v_items : List Int64} {w_holds : Int32} {w_body : Int32} {N d : Nat} (hd : 1 ≤ d) (hf : fX6_holdFolding N x1 v_holds v_body = some (w_holds, w_body)) : mm_Ct l yX6_holdFolding cX6_holdFolding 2 none d D (mm_T cI cL cS cH) [.ref (a 0), .int x1] (wd_X6 cI cL cS cH a v_holds v_body v_sort v_size v_items) (wd_X6 cI cL cS cH a w_holds w_body v_sort v_size v_items) none := by
  refine mm_of (by decide) (Nat.le_of_ble_eq_true rfl) ?_
  intro p e s m args below meth c A H locs ls C0 hP hD hA hS hl
  have C0 : mm_Cx p s m args meth c RX6 cX6_holdFolding 2 none D (mm_T cI cL cS cH) A := C0
  obtain ⟨hx, hb, hml, hown, hts, hr, hlocks, hK, hSt⟩ := id C0
  have hl : lv_has ls 2 [(0, .ref (a 0)), (1, .int x1)] := hl
  unfold fX6_holdFolding at hf
  refine lv_aload_n hx hb dX6_holdFolding_0 rfl (lv_at hl 0 rfl) ?_
  refine lv_iconst (v := 1) hx hb dX6_holdFolding_1 (by decide) ?_
  refine mm_put C0 hP hD hS iw_X6 tyX6 tyX6_ok nmX6 0 rfl rfl 0 (by decide) fl_X6_15 rfl rfl rfl (Nat.le_of_ble_eq_true rfl) dX6_holdFolding_2 (w2 := (wd_X6 cI cL cS cH a (1 : Int32) v_body v_sort v_size v_items)) rfl (fun H locs hP hD hS => ?_)
  refine lv_aload_n hx hb dX6_holdFolding_5 rfl (lv_at hl 0 rfl) ?_
  refine lv_iload_n hx hb dX6_holdFolding_6 rfl (lv_at hl 1 rfl) ?_
  refine mm_put C0 hP hD hS iw_X6 tyX6 tyX6_ok nmX6 0 rfl rfl 1 (by decide) fl_X6_19 rfl rfl rfl (Nat.le_of_ble_eq_true rfl) dX6_holdFolding_7 (w2 := (wd_X6 cI cL cS cH a (1 : Int32) x1 v_sort v_size v_items)) rfl (fun H locs hP hD hS => ?_)
  apply mm_sub2 hf
  exact mm_vret C0 hP hD hS dX6_holdFolding_10

theorem nb_dJ7_fill_d0a16_0 : bls_w cJ7_fill_d0a16 [(0, [3]), (1, [62]), (2, [42]), (3, [190]), (4, [54, 4]), (6, [29]), (7, [21, 4]), (9, [162, 0, 13]), (12, [42]), (13, [29]), (14, [31]), (15, [80])] := bls_of (by decide +kernel)
theorem dJ7_fill_d0a16_0 : decode cJ7_fill_d0a16 0 = .ok (.iconst 0, 1) := op_3 nb_dJ7_fill_d0a16_0.1
theorem dJ7_fill_d0a16_1 : decode cJ7_fill_d0a16 1 = .ok (.istore_n 3, 1) := op_62 nb_dJ7_fill_d0a16_0.2.1
theorem dJ7_fill_d0a16_2 : decode cJ7_fill_d0a16 2 = .ok (.aload_n 0, 1) := op_42 nb_dJ7_fill_d0a16_0.2.2.1
theorem dJ7_fill_d0a16_3 : decode cJ7_fill_d0a16 3 = .ok (.arraylength, 1) := op_190 nb_dJ7_fill_d0a16_0.2.2.2.1
set_option maxRecDepth 100000 in
theorem dJ7_fill_d0a16_4 : decode cJ7_fill_d0a16 4 = .ok (.istore 4, 2) := (op_54 nb_dJ7_fill_d0a16_0.2.2.2.2.1).trans rfl
theorem dJ7_fill_d0a16_6 : decode cJ7_fill_d0a16 6 = .ok (.iload_n 3, 1) := op_29 nb_dJ7_fill_d0a16_0.2.2.2.2.2.1
set_option maxRecDepth 100000 in
theorem dJ7_fill_d0a16_7 : decode cJ7_fill_d0a16 7 = .ok (.iload 4, 2) := (op_21 nb_dJ7_fill_d0a16_0.2.2.2.2.2.2.1).trans rfl
set_option maxRecDepth 100000 in
theorem dJ7_fill_d0a16_9 : decode cJ7_fill_d0a16 9 = .ok (.if_icmp .ge 13, 3) := (op_162 nb_dJ7_fill_d0a16_0.2.2.2.2.2.2.2.1).trans rfl
theorem dJ7_fill_d0a16_12 : decode cJ7_fill_d0a16 12 = .ok (.aload_n 0, 1) := op_42 nb_dJ7_fill_d0a16_0.2.2.2.2.2.2.2.2.1
theorem dJ7_fill_d0a16_13 : decode cJ7_fill_d0a16 13 = .ok (.iload_n 3, 1) := op_29 nb_dJ7_fill_d0a16_0.2.2.2.2.2.2.2.2.2.1
theorem dJ7_fill_d0a16_14 : decode cJ7_fill_d0a16 14 = .ok (.lload_n 1, 1) := op_31 nb_dJ7_fill_d0a16_0.2.2.2.2.2.2.2.2.2.2.1
theorem dJ7_fill_d0a16_15 : decode cJ7_fill_d0a16 15 = .ok (.lastore, 1) := op_80 nb_dJ7_fill_d0a16_0.2.2.2.2.2.2.2.2.2.2.2.1
theorem nb_dJ7_fill_d0a16_16 : bls_w cJ7_fill_d0a16 [(16, [132, 3, 1]), (19, [167, 255, 243]), (22, [177])] := bls_of (by decide +kernel)
set_option maxRecDepth 100000 in
theorem dJ7_fill_d0a16_16 : decode cJ7_fill_d0a16 16 = .ok (.iinc 3 1, 3) := (op_132 nb_dJ7_fill_d0a16_16.1).trans rfl
set_option maxRecDepth 100000 in
theorem dJ7_fill_d0a16_19 : decode cJ7_fill_d0a16 19 = .ok (.goto (-13), 3) := (op_167 nb_dJ7_fill_d0a16_16.2.1).trans rfl
theorem dJ7_fill_d0a16_22 : decode cJ7_fill_d0a16 22 = .ok (.return_, 1) := op_177 nb_dJ7_fill_d0a16_16.2.2.1
def fJ7_fill_d0a16_6 (N : Nat)  : Nat → Int64 → Int32 → Int32 → List Int64 → Option (List Int64)
  | 0 => fun _ _ _ _ => none
  | n + 1 => fun x1 x3 x4 p0_row =>
    if x4 ≤ x3 then
    (some (p0_row))
    else (mm_ck (mm_inb x3 p0_row.length) (mm_nm (mm_ls p0_row x3 x1) (fun (l_4 : List Int64) =>
    mm_nm (x3 + (1 : Int32)) (fun (y_5 : Int32) =>
    fJ7_fill_d0a16_6 N n x1 y_5 x4 l_4))))

set_option maxHeartbeats 4000000 in
set_option maxRecDepth 100000 in
theorem tJ7_fill_d0a16_6 {p : Program} {l : Launch} {e : Env} {s : State} {m : MethodId} {args : Array Value} {below : List Frame} {meth : Method} {c : Code} {D : va_G} {cI cL cS cH : ClassId} {A : Nat → Prop} {d : Nat} {a : Nat → Nat} (hd : 1 ≤ d) (C0 : mm_Cx p s m args meth c RJ7 cJ7_fill_d0a16 5 none D (mm_T cI cL cS cH) A) (hA : ∀ q, s.heap.size ≤ q → A q)  {wp0_row : List Int64} (N : Nat)  : ∀ (n : Nat), ∀ (x1 : Int64) (x3 : Int32) (x4 : Int32) (p0_row : List Int64) (H : Heap) (locs : List Loc) (ls : Array Slot), fJ7_fill_d0a16_6 N n x1 x3 x4 p0_row = some wp0_row → va_P D mm_cl ([(a 0, mm_ll cL p0_row)]) H → va_D A ([(a 0, mm_ll cL p0_row)]) → va_S A s.heap H locs → lv_has ls 5 [(0, .ref (a 0)), (1, .long x1), (3, .int x3), (4, .int x4)] → W p l e (mm_rr d) s m args below meth c H locs 0 0 (mm_Z below D A ([(a 0, mm_ll cL wp0_row)]) none args s) (F0 m 6 ls []) := by
  obtain ⟨hx, hb, hml, hown, hts, hr, hlocks, hK, hSt⟩ := id C0
  intro n
  induction n with
  | zero =>
    intro x1 x3 x4 p0_row H locs ls hf
    cases (show none = some _ from hf)
  | succ n ih =>
    intro x1 x3 x4 p0_row H locs ls hf hP hD hS hl
    unfold fJ7_fill_d0a16_6 at hf
    refine lv_iload_n hx hb dJ7_fill_d0a16_6 rfl (lv_at hl 2 rfl) ?_
    refine lv_iload hx hb dJ7_fill_d0a16_7 (lv_at hl 3 rfl) ?_
    refine lv_icmp_ge (tgt := 22) hx hb dJ7_fill_d0a16_9 (by decide) (fun c_2 => ?_) (fun c_2 => ?_)
    · have hf := mm_ip hf c_2
      obtain rfl := mm_inj1 hf
      exact mm_vret C0 hP hD hS dJ7_fill_d0a16_22
    · have hf := mm_in hf c_2
      refine lv_aload_n hx hb dJ7_fill_d0a16_12 rfl (lv_at hl 0 rfl) ?_
      refine lv_iload_n hx hb dJ7_fill_d0a16_13 rfl (lv_at hl 2 rfl) ?_
      refine lv_lload_n hx hb dJ7_fill_d0a16_14 rfl (lv_at hl 1 rfl) ?_
      obtain ⟨h_3, hf⟩ := mm_cks hf
      refine mm_last C0 hP hD hS 0 rfl h_3 dJ7_fill_d0a16_15 (w2 := ([(a 0, mm_ll cL (mm_ls p0_row x3 x1))])) rfl (fun H locs hP hD hS => ?_)
      generalize el_4 : (mm_ls p0_row x3 x1) = l_4 at hP hD
      have hf := mm_nms hf el_4.symm
      obtain ⟨y_5, ey_5⟩ : ∃ z : Int32, z = x3 + (1 : Int32) := ⟨_, rfl⟩
      have hf := mm_nms hf ey_5
      refine lv_iinc (v := y_5) (lv' := [(3, .int y_5), (0, .ref (a 0)), (1, .long x1), (4, .int x4)]) hx hb dJ7_fill_d0a16_16 hl (k := 2) rfl (by rw [ey_5]; rfl) (by decide) rfl (fun ls hl => ?_)
      refine lv_goto (tgt := 6) hx hb dJ7_fill_d0a16_19 (by decide) ?_
      exact ih _ _ _ _ H locs ls hf hP hD hS (lv_sub hl [1, 2, 0, 3] rfl)

def fJ7_fill_d0a16 (N : Nat) (x1 : Int64) (p0_row : List Int64) : Option (List Int64) :=
    mm_nm ((Int32.ofNat p0_row.length)) (fun (y_1 : Int32) =>
    fJ7_fill_d0a16_6 N N x1 (0 : Int32) y_1 p0_row)

set_option maxHeartbeats 4000000 in
set_option maxRecDepth 100000 in
theorem ctJ7_fill_d0a16 {l : Launch} {D : va_G} {cI cL cS cH : ClassId} {a : Nat → Nat} {x1 : Int64} {p0_row : List Int64} {wp0_row : List Int64} {N d : Nat} (hd : 1 ≤ d) (hf : fJ7_fill_d0a16 N x1 p0_row = some wp0_row) : mm_Ct l yJ7_fill_d0a16 cJ7_fill_d0a16 5 none d D (mm_T cI cL cS cH) [.ref (a 0), .long x1] ([(a 0, mm_ll cL p0_row)]) ([(a 0, mm_ll cL wp0_row)]) none := by
  refine mm_of (by decide) (Nat.le_of_ble_eq_true rfl) ?_
  intro p e s m args below meth c A H locs ls C0 hP hD hA hS hl
  have C0 : mm_Cx p s m args meth c RJ7 cJ7_fill_d0a16 5 none D (mm_T cI cL cS cH) A := C0
  obtain ⟨hx, hb, hml, hown, hts, hr, hlocks, hK, hSt⟩ := id C0
  have hl : lv_has ls 5 [(0, .ref (a 0)), (1, .long x1)] := hl
  unfold fJ7_fill_d0a16 at hf
  refine lv_iconst (v := 0) hx hb dJ7_fill_d0a16_0 (by decide) ?_
  refine lv_istore_n (lv' := [(3, .int (0 : Int32)), (0, .ref (a 0)), (1, .long x1)]) hx hb dJ7_fill_d0a16_1 rfl hl (by decide) rfl (fun ls hl => ?_)
  refine lv_aload_n hx hb dJ7_fill_d0a16_2 rfl (lv_at hl 1 rfl) ?_
  refine mm_llen C0 hP 0 rfl dJ7_fill_d0a16_3 ?_
  refine lv_topi (fun y_1 ey_1 => ?_)
  have hf := mm_nms hf ey_1
  refine lv_istore (lv' := [(4, .int y_1), (3, .int (0 : Int32)), (0, .ref (a 0)), (1, .long x1)]) hx hb dJ7_fill_d0a16_4 hl (by decide) rfl (fun ls hl => ?_)
  exact tJ7_fill_d0a16_6 hd C0 hA N  N _ _ _ _ H locs ls hf hP hD hS (lv_sub hl [2, 3, 1, 0] rfl)

theorem nb_dX6_holdRow_0 : bls_w cX6_holdRow [(0, [42]), (1, [5]), (2, [181, 0, 15]), (5, [42]), (6, [27]), (7, [181, 0, 22]), (10, [42]), (11, [28]), (12, [181, 0, 25]), (15, [42]), (16, [180, 0, 9]), (19, [9])] := bls_of (by decide +kernel)
theorem dX6_holdRow_0 : decode cX6_holdRow 0 = .ok (.aload_n 0, 1) := op_42 nb_dX6_holdRow_0.1
theorem dX6_holdRow_1 : decode cX6_holdRow 1 = .ok (.iconst 2, 1) := op_5 nb_dX6_holdRow_0.2.1
set_option maxRecDepth 100000 in
theorem dX6_holdRow_2 : decode cX6_holdRow 2 = .ok (.putfield 15, 3) := (op_181 nb_dX6_holdRow_0.2.2.1).trans rfl
theorem dX6_holdRow_5 : decode cX6_holdRow 5 = .ok (.aload_n 0, 1) := op_42 nb_dX6_holdRow_0.2.2.2.1
theorem dX6_holdRow_6 : decode cX6_holdRow 6 = .ok (.iload_n 1, 1) := op_27 nb_dX6_holdRow_0.2.2.2.2.1
set_option maxRecDepth 100000 in
theorem dX6_holdRow_7 : decode cX6_holdRow 7 = .ok (.putfield 22, 3) := (op_181 nb_dX6_holdRow_0.2.2.2.2.2.1).trans rfl
theorem dX6_holdRow_10 : decode cX6_holdRow 10 = .ok (.aload_n 0, 1) := op_42 nb_dX6_holdRow_0.2.2.2.2.2.2.1
theorem dX6_holdRow_11 : decode cX6_holdRow 11 = .ok (.iload_n 2, 1) := op_28 nb_dX6_holdRow_0.2.2.2.2.2.2.2.1
set_option maxRecDepth 100000 in
theorem dX6_holdRow_12 : decode cX6_holdRow 12 = .ok (.putfield 25, 3) := (op_181 nb_dX6_holdRow_0.2.2.2.2.2.2.2.2.1).trans rfl
theorem dX6_holdRow_15 : decode cX6_holdRow 15 = .ok (.aload_n 0, 1) := op_42 nb_dX6_holdRow_0.2.2.2.2.2.2.2.2.2.1
set_option maxRecDepth 100000 in
theorem dX6_holdRow_16 : decode cX6_holdRow 16 = .ok (.getfield 9, 3) := (op_180 nb_dX6_holdRow_0.2.2.2.2.2.2.2.2.2.2.1).trans rfl
theorem dX6_holdRow_19 : decode cX6_holdRow 19 = .ok (.lconst 0, 1) := op_9 nb_dX6_holdRow_0.2.2.2.2.2.2.2.2.2.2.2.1
theorem nb_dX6_holdRow_20 : bls_w cX6_holdRow [(20, [184, 0, 28]), (23, [177])] := bls_of (by decide +kernel)
set_option maxRecDepth 100000 in
theorem dX6_holdRow_20 : decode cX6_holdRow 20 = .ok (.invokestatic 28, 3) := (op_184 nb_dX6_holdRow_20.1).trans rfl
theorem dX6_holdRow_23 : decode cX6_holdRow 23 = .ok (.return_, 1) := op_177 nb_dX6_holdRow_20.2.1
def fX6_holdRow (N : Nat) (x1 : Int32) (x2 : Int32) (v_holds : Int32) (v_sort : Int32) (v_size : Int32) (v_items : List Int64) : Option (Int32 × Int32 × Int32 × List Int64) :=
    mm_bd1 (fJ7_fill_d0a16 N (0 : Int64) v_items) (fun (w_1 : List Int64) =>
    some ((2 : Int32), x1, x2, w_1))

set_option maxHeartbeats 4000000 in
set_option maxRecDepth 100000 in
theorem ctX6_holdRow {l : Launch} {D : va_G} {cI cL cS cH : ClassId} {a : Nat → Nat} {x1 : Int32} {x2 : Int32} {v_holds : Int32} {v_body : Int32} {v_sort : Int32} {v_size : Int32} {v_items : List Int64} {w_holds : Int32} {w_sort : Int32} {w_size : Int32} {w_items : List Int64} {N d : Nat} (hd : 2 ≤ d) (hf : fX6_holdRow N x1 x2 v_holds v_sort v_size v_items = some (w_holds, w_sort, w_size, w_items)) : mm_Ct l yX6_holdRow cX6_holdRow 3 none d D (mm_T cI cL cS cH) [.ref (a 0), .int x1, .int x2] (wd_X6 cI cL cS cH a v_holds v_body v_sort v_size v_items) (wd_X6 cI cL cS cH a w_holds v_body w_sort w_size w_items) none := by
  refine mm_of (by decide) (Nat.le_of_ble_eq_true rfl) ?_
  intro p e s m args below meth c A H locs ls C0 hP hD hA hS hl
  have C0 : mm_Cx p s m args meth c RX6 cX6_holdRow 3 none D (mm_T cI cL cS cH) A := C0
  obtain ⟨hx, hb, hml, hown, hts, hr, hlocks, hK, hSt⟩ := id C0
  have hl : lv_has ls 3 [(0, .ref (a 0)), (1, .int x1), (2, .int x2)] := hl
  unfold fX6_holdRow at hf
  refine lv_aload_n hx hb dX6_holdRow_0 rfl (lv_at hl 0 rfl) ?_
  refine lv_iconst (v := 2) hx hb dX6_holdRow_1 (by decide) ?_
  refine mm_put C0 hP hD hS iw_X6 tyX6 tyX6_ok nmX6 0 rfl rfl 0 (by decide) fl_X6_15 rfl rfl rfl (Nat.le_of_ble_eq_true rfl) dX6_holdRow_2 (w2 := (wd_X6 cI cL cS cH a (2 : Int32) v_body v_sort v_size v_items)) rfl (fun H locs hP hD hS => ?_)
  refine lv_aload_n hx hb dX6_holdRow_5 rfl (lv_at hl 0 rfl) ?_
  refine lv_iload_n hx hb dX6_holdRow_6 rfl (lv_at hl 1 rfl) ?_
  refine mm_put C0 hP hD hS iw_X6 tyX6 tyX6_ok nmX6 0 rfl rfl 2 (by decide) fl_X6_22 rfl rfl rfl (Nat.le_of_ble_eq_true rfl) dX6_holdRow_7 (w2 := (wd_X6 cI cL cS cH a (2 : Int32) v_body x1 v_size v_items)) rfl (fun H locs hP hD hS => ?_)
  refine lv_aload_n hx hb dX6_holdRow_10 rfl (lv_at hl 0 rfl) ?_
  refine lv_iload_n hx hb dX6_holdRow_11 rfl (lv_at hl 2 rfl) ?_
  refine mm_put C0 hP hD hS iw_X6 tyX6 tyX6_ok nmX6 0 rfl rfl 3 (by decide) fl_X6_25 rfl rfl rfl (Nat.le_of_ble_eq_true rfl) dX6_holdRow_12 (w2 := (wd_X6 cI cL cS cH a (2 : Int32) v_body x1 x2 v_items)) rfl (fun H locs hP hD hS => ?_)
  refine lv_aload_n hx hb dX6_holdRow_15 rfl (lv_at hl 0 rfl) ?_
  refine mm_get C0 hP iw_X6 0 rfl rfl 4 (by decide) fl_X6_9 rfl dX6_holdRow_16 ?_
  refine lv_lconst (v := 0) hx hb dX6_holdRow_19 (by decide) ?_
  obtain ⟨w_1, hc_2, hf⟩ := mm_bd1s hf
  refine mm_callT (w2 := (wd_X6 cI cL cS cH a (2 : Int32) v_body x1 x2 w_1)) (rest := []) C0 lk_X6_28 (ctJ7_fill_d0a16 (a := (fun k => a (k + 1))) (d := d - 1) (by omega) hc_2) (by omega) rfl hl.1 rfl (mm_cat rfl) dX6_holdRow_20 hP hD hA hS [false, true] rfl rfl rfl rfl (fun H locs hP hD hS => ?_)
  refine W.eq (g2 := F0 m 23 ls []) rfl ?_
  apply mm_sub4 hf
  exact mm_vret C0 hP hD hS dX6_holdRow_23

theorem nb_dX6_hasPart_0 : bls_w cX6_hasPart [(0, [27]), (1, [155, 0, 25]), (4, [27]), (5, [42]), (6, [180, 0, 25]), (9, [163, 0, 17]), (12, [28]), (13, [42]), (14, [180, 0, 25]), (17, [27]), (18, [100]), (19, [163, 0, 7])] := bls_of (by decide +kernel)
theorem dX6_hasPart_0 : decode cX6_hasPart 0 = .ok (.iload_n 1, 1) := op_27 nb_dX6_hasPart_0.1
set_option maxRecDepth 100000 in
theorem dX6_hasPart_1 : decode cX6_hasPart 1 = .ok (.ifCond .lt 25, 3) := (op_155 nb_dX6_hasPart_0.2.1).trans rfl
theorem dX6_hasPart_4 : decode cX6_hasPart 4 = .ok (.iload_n 1, 1) := op_27 nb_dX6_hasPart_0.2.2.1
theorem dX6_hasPart_5 : decode cX6_hasPart 5 = .ok (.aload_n 0, 1) := op_42 nb_dX6_hasPart_0.2.2.2.1
set_option maxRecDepth 100000 in
theorem dX6_hasPart_6 : decode cX6_hasPart 6 = .ok (.getfield 25, 3) := (op_180 nb_dX6_hasPart_0.2.2.2.2.1).trans rfl
set_option maxRecDepth 100000 in
theorem dX6_hasPart_9 : decode cX6_hasPart 9 = .ok (.if_icmp .gt 17, 3) := (op_163 nb_dX6_hasPart_0.2.2.2.2.2.1).trans rfl
theorem dX6_hasPart_12 : decode cX6_hasPart 12 = .ok (.iload_n 2, 1) := op_28 nb_dX6_hasPart_0.2.2.2.2.2.2.1
theorem dX6_hasPart_13 : decode cX6_hasPart 13 = .ok (.aload_n 0, 1) := op_42 nb_dX6_hasPart_0.2.2.2.2.2.2.2.1
set_option maxRecDepth 100000 in
theorem dX6_hasPart_14 : decode cX6_hasPart 14 = .ok (.getfield 25, 3) := (op_180 nb_dX6_hasPart_0.2.2.2.2.2.2.2.2.1).trans rfl
theorem dX6_hasPart_17 : decode cX6_hasPart 17 = .ok (.iload_n 1, 1) := op_27 nb_dX6_hasPart_0.2.2.2.2.2.2.2.2.2.1
theorem dX6_hasPart_18 : decode cX6_hasPart 18 = .ok (.isub, 1) := op_100 nb_dX6_hasPart_0.2.2.2.2.2.2.2.2.2.2.1
set_option maxRecDepth 100000 in
theorem dX6_hasPart_19 : decode cX6_hasPart 19 = .ok (.if_icmp .gt 7, 3) := (op_163 nb_dX6_hasPart_0.2.2.2.2.2.2.2.2.2.2.2.1).trans rfl
theorem nb_dX6_hasPart_22 : bls_w cX6_hasPart [(22, [4]), (23, [167, 0, 4]), (26, [3]), (27, [172])] := bls_of (by decide +kernel)
theorem dX6_hasPart_22 : decode cX6_hasPart 22 = .ok (.iconst 1, 1) := op_4 nb_dX6_hasPart_22.1
set_option maxRecDepth 100000 in
theorem dX6_hasPart_23 : decode cX6_hasPart 23 = .ok (.goto 4, 3) := (op_167 nb_dX6_hasPart_22.2.1).trans rfl
theorem dX6_hasPart_26 : decode cX6_hasPart 26 = .ok (.iconst 0, 1) := op_3 nb_dX6_hasPart_22.2.2.1
theorem dX6_hasPart_27 : decode cX6_hasPart 27 = .ok (.ireturn, 1) := op_172 nb_dX6_hasPart_22.2.2.2.1
def fX6_hasPart (N : Nat) (x1 : Int32) (x2 : Int32) (v_size : Int32) : Option (Bool) :=
    if x1 < 0 then
    (some (false))
    else (if v_size < x1 then
    (some (false))
    else (if (v_size - x1) < x2 then
    (some (false))
    else (some (true))))

set_option maxHeartbeats 4000000 in
set_option maxRecDepth 100000 in
theorem ctX6_hasPart {l : Launch} {D : va_G} {cI cL cS cH : ClassId} {a : Nat → Nat} {x1 : Int32} {x2 : Int32} {v_holds : Int32} {v_body : Int32} {v_sort : Int32} {v_size : Int32} {v_items : List Int64} {r : Bool} {N d : Nat} (hd : 1 ≤ d) (hf : fX6_hasPart N x1 x2 v_size = some r) : mm_Ct l yX6_hasPart cX6_hasPart 3 (some .boolean) d D (mm_T cI cL cS cH) [.ref (a 0), .int x1, .int x2] (wd_X6 cI cL cS cH a v_holds v_body v_sort v_size v_items) (wd_X6 cI cL cS cH a v_holds v_body v_sort v_size v_items) (some (.int (mm_b r))) := by
  refine mm_of (by decide) (Nat.le_of_ble_eq_true rfl) ?_
  intro p e s m args below meth c A H locs ls C0 hP hD hA hS hl
  have C0 : mm_Cx p s m args meth c RX6 cX6_hasPart 3 (some .boolean) D (mm_T cI cL cS cH) A := C0
  obtain ⟨hx, hb, hml, hown, hts, hr, hlocks, hK, hSt⟩ := id C0
  have hl : lv_has ls 3 [(0, .ref (a 0)), (1, .int x1), (2, .int x2)] := hl
  unfold fX6_hasPart at hf
  refine lv_iload_n hx hb dX6_hasPart_0 rfl (lv_at hl 1 rfl) ?_
  refine lv_if_lt (tgt := 26) hx hb dX6_hasPart_1 (by decide) (fun c_1 => ?_) (fun c_1 => ?_)
  · have hf := mm_ip hf c_1
    refine lv_iconst (v := 0) hx hb dX6_hasPart_26 (by decide) ?_
    obtain rfl := mm_inj1 hf
    exact mm_zret (v := false) C0 hP hD hS dX6_hasPart_27 (by decide)
  · have hf := mm_in hf c_1
    refine lv_iload_n hx hb dX6_hasPart_4 rfl (lv_at hl 1 rfl) ?_
    refine lv_aload_n hx hb dX6_hasPart_5 rfl (lv_at hl 0 rfl) ?_
    refine mm_get C0 hP iw_X6 0 rfl rfl 3 (by decide) fl_X6_25 rfl dX6_hasPart_6 ?_
    refine lv_icmp_gt (tgt := 26) hx hb dX6_hasPart_9 (by decide) (fun c_2 => ?_) (fun c_2 => ?_)
    · have hf := mm_ip hf c_2
      refine lv_iconst (v := 0) hx hb dX6_hasPart_26 (by decide) ?_
      obtain rfl := mm_inj1 hf
      exact mm_zret (v := false) C0 hP hD hS dX6_hasPart_27 (by decide)
    · have hf := mm_in hf c_2
      refine lv_iload_n hx hb dX6_hasPart_12 rfl (lv_at hl 2 rfl) ?_
      refine lv_aload_n hx hb dX6_hasPart_13 rfl (lv_at hl 0 rfl) ?_
      refine mm_get C0 hP iw_X6 0 rfl rfl 3 (by decide) fl_X6_25 rfl dX6_hasPart_14 ?_
      refine lv_iload_n hx hb dX6_hasPart_17 rfl (lv_at hl 1 rfl) ?_
      refine lv_isub hx hb dX6_hasPart_18 ?_
      refine lv_icmp_gt (tgt := 26) hx hb dX6_hasPart_19 (by decide) (fun c_3 => ?_) (fun c_3 => ?_)
      · have hf := mm_ip hf c_3
        refine lv_iconst (v := 0) hx hb dX6_hasPart_26 (by decide) ?_
        obtain rfl := mm_inj1 hf
        exact mm_zret (v := false) C0 hP hD hS dX6_hasPart_27 (by decide)
      · have hf := mm_in hf c_3
        refine lv_iconst (v := 1) hx hb dX6_hasPart_22 (by decide) ?_
        refine lv_goto (tgt := 27) hx hb dX6_hasPart_23 (by decide) ?_
        obtain rfl := mm_inj1 hf
        exact mm_zret (v := true) C0 hP hD hS dX6_hasPart_27 (by decide)

theorem dX6_lowestBits_4 : decode cX6_lowestBits 4 = .ok (.tableswitch 48 0 3 #[32, 37, 42, 46], 32) := by decide +kernel
theorem nb_dX6_lowestBits_0 : bls_w cX6_lowestBits [(0, [42]), (1, [180, 0, 22]), (36, [31]), (37, [136]), (38, [145]), (39, [133]), (40, [173]), (41, [31]), (42, [136]), (43, [147]), (44, [133]), (45, [173])] := bls_of (by decide +kernel)
theorem dX6_lowestBits_0 : decode cX6_lowestBits 0 = .ok (.aload_n 0, 1) := op_42 nb_dX6_lowestBits_0.1
set_option maxRecDepth 100000 in
theorem dX6_lowestBits_1 : decode cX6_lowestBits 1 = .ok (.getfield 22, 3) := (op_180 nb_dX6_lowestBits_0.2.1).trans rfl
theorem dX6_lowestBits_36 : decode cX6_lowestBits 36 = .ok (.lload_n 1, 1) := op_31 nb_dX6_lowestBits_0.2.2.1
theorem dX6_lowestBits_37 : decode cX6_lowestBits 37 = .ok (.l2i, 1) := op_136 nb_dX6_lowestBits_0.2.2.2.1
theorem dX6_lowestBits_38 : decode cX6_lowestBits 38 = .ok (.i2b, 1) := op_145 nb_dX6_lowestBits_0.2.2.2.2.1
theorem dX6_lowestBits_39 : decode cX6_lowestBits 39 = .ok (.i2l, 1) := op_133 nb_dX6_lowestBits_0.2.2.2.2.2.1
theorem dX6_lowestBits_40 : decode cX6_lowestBits 40 = .ok (.lreturn, 1) := op_173 nb_dX6_lowestBits_0.2.2.2.2.2.2.1
theorem dX6_lowestBits_41 : decode cX6_lowestBits 41 = .ok (.lload_n 1, 1) := op_31 nb_dX6_lowestBits_0.2.2.2.2.2.2.2.1
theorem dX6_lowestBits_42 : decode cX6_lowestBits 42 = .ok (.l2i, 1) := op_136 nb_dX6_lowestBits_0.2.2.2.2.2.2.2.2.1
theorem dX6_lowestBits_43 : decode cX6_lowestBits 43 = .ok (.i2s, 1) := op_147 nb_dX6_lowestBits_0.2.2.2.2.2.2.2.2.2.1
theorem dX6_lowestBits_44 : decode cX6_lowestBits 44 = .ok (.i2l, 1) := op_133 nb_dX6_lowestBits_0.2.2.2.2.2.2.2.2.2.2.1
theorem dX6_lowestBits_45 : decode cX6_lowestBits 45 = .ok (.lreturn, 1) := op_173 nb_dX6_lowestBits_0.2.2.2.2.2.2.2.2.2.2.2.1
theorem nb_dX6_lowestBits_46 : bls_w cX6_lowestBits [(46, [31]), (47, [136]), (48, [133]), (49, [173]), (50, [31]), (51, [173]), (52, [31]), (53, [9]), (54, [148]), (55, [153, 0, 7]), (58, [10]), (59, [167, 0, 4])] := bls_of (by decide +kernel)
theorem dX6_lowestBits_46 : decode cX6_lowestBits 46 = .ok (.lload_n 1, 1) := op_31 nb_dX6_lowestBits_46.1
theorem dX6_lowestBits_47 : decode cX6_lowestBits 47 = .ok (.l2i, 1) := op_136 nb_dX6_lowestBits_46.2.1
theorem dX6_lowestBits_48 : decode cX6_lowestBits 48 = .ok (.i2l, 1) := op_133 nb_dX6_lowestBits_46.2.2.1
theorem dX6_lowestBits_49 : decode cX6_lowestBits 49 = .ok (.lreturn, 1) := op_173 nb_dX6_lowestBits_46.2.2.2.1
theorem dX6_lowestBits_50 : decode cX6_lowestBits 50 = .ok (.lload_n 1, 1) := op_31 nb_dX6_lowestBits_46.2.2.2.2.1
theorem dX6_lowestBits_51 : decode cX6_lowestBits 51 = .ok (.lreturn, 1) := op_173 nb_dX6_lowestBits_46.2.2.2.2.2.1
theorem dX6_lowestBits_52 : decode cX6_lowestBits 52 = .ok (.lload_n 1, 1) := op_31 nb_dX6_lowestBits_46.2.2.2.2.2.2.1
theorem dX6_lowestBits_53 : decode cX6_lowestBits 53 = .ok (.lconst 0, 1) := op_9 nb_dX6_lowestBits_46.2.2.2.2.2.2.2.1
theorem dX6_lowestBits_54 : decode cX6_lowestBits 54 = .ok (.lcmp, 1) := op_148 nb_dX6_lowestBits_46.2.2.2.2.2.2.2.2.1
set_option maxRecDepth 100000 in
theorem dX6_lowestBits_55 : decode cX6_lowestBits 55 = .ok (.ifCond .eq 7, 3) := (op_153 nb_dX6_lowestBits_46.2.2.2.2.2.2.2.2.2.1).trans rfl
theorem dX6_lowestBits_58 : decode cX6_lowestBits 58 = .ok (.lconst 1, 1) := op_10 nb_dX6_lowestBits_46.2.2.2.2.2.2.2.2.2.2.1
set_option maxRecDepth 100000 in
theorem dX6_lowestBits_59 : decode cX6_lowestBits 59 = .ok (.goto 4, 3) := (op_167 nb_dX6_lowestBits_46.2.2.2.2.2.2.2.2.2.2.2.1).trans rfl
theorem nb_dX6_lowestBits_62 : bls_w cX6_lowestBits [(62, [9]), (63, [173])] := bls_of (by decide +kernel)
theorem dX6_lowestBits_62 : decode cX6_lowestBits 62 = .ok (.lconst 0, 1) := op_9 nb_dX6_lowestBits_62.1
theorem dX6_lowestBits_63 : decode cX6_lowestBits 63 = .ok (.lreturn, 1) := op_173 nb_dX6_lowestBits_62.2.1
def fX6_lowestBits (N : Nat) (x1 : Int64) (v_sort : Int32) : Option (Int64) :=
    if v_sort = (0 : Int32) then
    (some ((((x1.toInt32).toInt8.toInt32).toInt64)))
    else (if v_sort = (1 : Int32) then
    (some ((((x1.toInt32).toInt16.toInt32).toInt64)))
    else (if v_sort = (2 : Int32) then
    (some (((x1.toInt32).toInt64)))
    else (if v_sort = (3 : Int32) then
    (some (x1))
    else (if (lg_cmp x1 (0 : Int64)) = 0 then
    (some ((0 : Int64)))
    else (some ((1 : Int64)))))))

set_option maxHeartbeats 4000000 in
set_option maxRecDepth 100000 in
theorem ctX6_lowestBits {l : Launch} {D : va_G} {cI cL cS cH : ClassId} {a : Nat → Nat} {x1 : Int64} {v_holds : Int32} {v_body : Int32} {v_sort : Int32} {v_size : Int32} {v_items : List Int64} {r : Int64} {N d : Nat} (hd : 1 ≤ d) (hf : fX6_lowestBits N x1 v_sort = some r) : mm_Ct l yX6_lowestBits cX6_lowestBits 3 (some .long) d D (mm_T cI cL cS cH) [.ref (a 0), .long x1] (wd_X6 cI cL cS cH a v_holds v_body v_sort v_size v_items) (wd_X6 cI cL cS cH a v_holds v_body v_sort v_size v_items) (some (.long r)) := by
  refine mm_of (by decide) (Nat.le_of_ble_eq_true rfl) ?_
  intro p e s m args below meth c A H locs ls C0 hP hD hA hS hl
  have C0 : mm_Cx p s m args meth c RX6 cX6_lowestBits 3 (some .long) D (mm_T cI cL cS cH) A := C0
  obtain ⟨hx, hb, hml, hown, hts, hr, hlocks, hK, hSt⟩ := id C0
  have hl : lv_has ls 3 [(0, .ref (a 0)), (1, .long x1)] := hl
  unfold fX6_lowestBits at hf
  refine lv_aload_n hx hb dX6_lowestBits_0 rfl (lv_at hl 0 rfl) ?_
  refine mm_get C0 hP iw_X6 0 rfl rfl 2 (by decide) fl_X6_22 rfl dX6_lowestBits_1 ?_
  by_cases c_1 : v_sort = (0 : Int32)
  · have hf := mm_ip hf c_1
    refine lv_tableIn (off := 32) (tgt := 36) hx hb dX6_lowestBits_4 (by rw [c_1]; decide) (by rw [c_1]; decide) (by rw [c_1]; first | done | rfl) (by decide) ?_
    refine lv_lload_n hx hb dX6_lowestBits_36 rfl (lv_at hl 1 rfl) ?_
    refine lv_l2i hx hb dX6_lowestBits_37 rfl ?_
    refine lv_i2b hx hb dX6_lowestBits_38 rfl ?_
    refine lv_i2l hx hb dX6_lowestBits_39 rfl ?_
    obtain rfl := mm_inj1 hf
    exact mm_lret C0 hP hD hS dX6_lowestBits_40
  · have hf := mm_in hf c_1
    by_cases c_2 : v_sort = (1 : Int32)
    · have hf := mm_ip hf c_2
      refine lv_tableIn (off := 37) (tgt := 41) hx hb dX6_lowestBits_4 (by rw [c_2]; decide) (by rw [c_2]; decide) (by rw [c_2]; first | done | rfl) (by decide) ?_
      refine lv_lload_n hx hb dX6_lowestBits_41 rfl (lv_at hl 1 rfl) ?_
      refine lv_l2i hx hb dX6_lowestBits_42 rfl ?_
      refine lv_i2s hx hb dX6_lowestBits_43 rfl ?_
      refine lv_i2l hx hb dX6_lowestBits_44 rfl ?_
      obtain rfl := mm_inj1 hf
      exact mm_lret C0 hP hD hS dX6_lowestBits_45
    · have hf := mm_in hf c_2
      by_cases c_3 : v_sort = (2 : Int32)
      · have hf := mm_ip hf c_3
        refine lv_tableIn (off := 42) (tgt := 46) hx hb dX6_lowestBits_4 (by rw [c_3]; decide) (by rw [c_3]; decide) (by rw [c_3]; first | done | rfl) (by decide) ?_
        refine lv_lload_n hx hb dX6_lowestBits_46 rfl (lv_at hl 1 rfl) ?_
        refine lv_l2i hx hb dX6_lowestBits_47 rfl ?_
        refine lv_i2l hx hb dX6_lowestBits_48 rfl ?_
        obtain rfl := mm_inj1 hf
        exact mm_lret C0 hP hD hS dX6_lowestBits_49
      · have hf := mm_in hf c_3
        by_cases c_4 : v_sort = (3 : Int32)
        · have hf := mm_ip hf c_4
          refine lv_tableIn (off := 46) (tgt := 50) hx hb dX6_lowestBits_4 (by rw [c_4]; decide) (by rw [c_4]; decide) (by rw [c_4]; first | done | rfl) (by decide) ?_
          refine lv_lload_n hx hb dX6_lowestBits_50 rfl (lv_at hl 1 rfl) ?_
          obtain rfl := mm_inj1 hf
          exact mm_lret C0 hP hD hS dX6_lowestBits_51
        · have hf := mm_in hf c_4
          refine lv_tableOut (tgt := 52) hx hb dX6_lowestBits_4 (by have nc_1 := lv_neT c_1 (a := 0) (by decide); have nc_2 := lv_neT c_2 (a := 1) (by decide); have nc_3 := lv_neT c_3 (a := 2) (by decide); have nc_4 := lv_neT c_4 (a := 3) (by decide); omega) (by decide) ?_
          refine lv_lload_n hx hb dX6_lowestBits_52 rfl (lv_at hl 1 rfl) ?_
          refine lv_lconst (v := 0) hx hb dX6_lowestBits_53 (by decide) ?_
          refine W.lcmp hx hb dX6_lowestBits_54 ?_
          refine lv_if_eq (tgt := 62) hx hb dX6_lowestBits_55 (by decide) (fun c_5 => ?_) (fun c_5 => ?_)
          · have hf := mm_ip hf c_5
            refine lv_lconst (v := 0) hx hb dX6_lowestBits_62 (by decide) ?_
            obtain rfl := mm_inj1 hf
            exact mm_lret C0 hP hD hS dX6_lowestBits_63
          · have hf := mm_in hf c_5
            refine lv_lconst (v := 1) hx hb dX6_lowestBits_58 (by decide) ?_
            refine lv_goto (tgt := 63) hx hb dX6_lowestBits_59 (by decide) ?_
            obtain rfl := mm_inj1 hf
            exact mm_lret C0 hP hD hS dX6_lowestBits_63

theorem nb_dX6_store_0 : bls_w cX6_store [(0, [42]), (1, [180, 0, 9]), (4, [27]), (5, [42]), (6, [32]), (7, [182, 0, 34]), (10, [80]), (11, [177])] := bls_of (by decide +kernel)
theorem dX6_store_0 : decode cX6_store 0 = .ok (.aload_n 0, 1) := op_42 nb_dX6_store_0.1
set_option maxRecDepth 100000 in
theorem dX6_store_1 : decode cX6_store 1 = .ok (.getfield 9, 3) := (op_180 nb_dX6_store_0.2.1).trans rfl
theorem dX6_store_4 : decode cX6_store 4 = .ok (.iload_n 1, 1) := op_27 nb_dX6_store_0.2.2.1
theorem dX6_store_5 : decode cX6_store 5 = .ok (.aload_n 0, 1) := op_42 nb_dX6_store_0.2.2.2.1
theorem dX6_store_6 : decode cX6_store 6 = .ok (.lload_n 2, 1) := op_32 nb_dX6_store_0.2.2.2.2.1
set_option maxRecDepth 100000 in
theorem dX6_store_7 : decode cX6_store 7 = .ok (.invokevirtual 34, 3) := (op_182 nb_dX6_store_0.2.2.2.2.2.1).trans rfl
theorem dX6_store_10 : decode cX6_store 10 = .ok (.lastore, 1) := op_80 nb_dX6_store_0.2.2.2.2.2.2.1
theorem dX6_store_11 : decode cX6_store 11 = .ok (.return_, 1) := op_177 nb_dX6_store_0.2.2.2.2.2.2.2.1
def fX6_store (N : Nat) (x1 : Int32) (x2 : Int64) (v_sort : Int32) (v_items : List Int64) : Option (List Int64) :=
    mm_bd1 (fX6_lowestBits N x2 v_sort) (fun (r_1 : Int64) =>
    mm_ck (mm_inb x1 v_items.length) (mm_nm (mm_ls v_items x1 r_1) (fun (l_4 : List Int64) =>
    some (l_4))))

set_option maxHeartbeats 4000000 in
set_option maxRecDepth 100000 in
theorem ctX6_store {l : Launch} {D : va_G} {cI cL cS cH : ClassId} {a : Nat → Nat} {x1 : Int32} {x2 : Int64} {v_holds : Int32} {v_body : Int32} {v_sort : Int32} {v_size : Int32} {v_items : List Int64} {w_items : List Int64} {N d : Nat} (hd : 2 ≤ d) (hf : fX6_store N x1 x2 v_sort v_items = some w_items) : mm_Ct l yX6_store cX6_store 4 none d D (mm_T cI cL cS cH) [.ref (a 0), .int x1, .long x2] (wd_X6 cI cL cS cH a v_holds v_body v_sort v_size v_items) (wd_X6 cI cL cS cH a v_holds v_body v_sort v_size w_items) none := by
  refine mm_of (by decide) (Nat.le_of_ble_eq_true rfl) ?_
  intro p e s m args below meth c A H locs ls C0 hP hD hA hS hl
  have C0 : mm_Cx p s m args meth c RX6 cX6_store 4 none D (mm_T cI cL cS cH) A := C0
  obtain ⟨hx, hb, hml, hown, hts, hr, hlocks, hK, hSt⟩ := id C0
  have hl : lv_has ls 4 [(0, .ref (a 0)), (1, .int x1), (2, .long x2)] := hl
  unfold fX6_store at hf
  refine lv_aload_n hx hb dX6_store_0 rfl (lv_at hl 0 rfl) ?_
  refine mm_get C0 hP iw_X6 0 rfl rfl 4 (by decide) fl_X6_9 rfl dX6_store_1 ?_
  refine lv_iload_n hx hb dX6_store_4 rfl (lv_at hl 1 rfl) ?_
  refine lv_aload_n hx hb dX6_store_5 rfl (lv_at hl 0 rfl) ?_
  refine lv_lload_n hx hb dX6_store_6 rfl (lv_at hl 2 rfl) ?_
  obtain ⟨r_1, hc_2, hf⟩ := mm_bd1s hf
  refine mm_callVF (q0 := 0) (ci := 6) (rest := [.int x1, .ref (a 1)]) C0 lk_X6_34 (ctX6_lowestBits (a := a) (d := d - 1) (by omega) hc_2) (by omega) rfl hl.1 rfl (mm_cat rfl) dX6_store_7 hP hD hA hS rfl rfl (fun H locs hP hD hS => ?_)
  refine W.eq (g2 := F0 m 10 ls [.long r_1, .int x1, .ref (a 1)]) rfl ?_
  obtain ⟨h_3, hf⟩ := mm_cks hf
  refine mm_last C0 hP hD hS 1 rfl h_3 dX6_store_10 (w2 := (wd_X6 cI cL cS cH a v_holds v_body v_sort v_size (mm_ls v_items x1 r_1))) rfl (fun H locs hP hD hS => ?_)
  generalize el_4 : (mm_ls v_items x1 r_1) = l_4 at hP hD
  have hf := mm_nms hf el_4.symm
  obtain rfl := mm_inj1 hf
  exact mm_vret C0 hP hD hS dX6_store_11

theorem nb_dX7_lay_0 : bls_w cX7_lay [(0, [42]), (1, [180, 0, 18]), (4, [2]), (5, [184, 0, 21]), (8, [28]), (9, [62]), (10, [27]), (11, [4]), (12, [100]), (13, [54, 4]), (15, [21, 4]), (17, [155, 0, 54])] := bls_of (by decide +kernel)
theorem dX7_lay_0 : decode cX7_lay 0 = .ok (.aload_n 0, 1) := op_42 nb_dX7_lay_0.1
set_option maxRecDepth 100000 in
theorem dX7_lay_1 : decode cX7_lay 1 = .ok (.getfield 18, 3) := (op_180 nb_dX7_lay_0.2.1).trans rfl
theorem dX7_lay_4 : decode cX7_lay 4 = .ok (.iconst (-1), 1) := op_2 nb_dX7_lay_0.2.2.1
set_option maxRecDepth 100000 in
theorem dX7_lay_5 : decode cX7_lay 5 = .ok (.invokestatic 21, 3) := (op_184 nb_dX7_lay_0.2.2.2.1).trans rfl
theorem dX7_lay_8 : decode cX7_lay 8 = .ok (.iload_n 2, 1) := op_28 nb_dX7_lay_0.2.2.2.2.1
theorem dX7_lay_9 : decode cX7_lay 9 = .ok (.istore_n 3, 1) := op_62 nb_dX7_lay_0.2.2.2.2.2.1
theorem dX7_lay_10 : decode cX7_lay 10 = .ok (.iload_n 1, 1) := op_27 nb_dX7_lay_0.2.2.2.2.2.2.1
theorem dX7_lay_11 : decode cX7_lay 11 = .ok (.iconst 1, 1) := op_4 nb_dX7_lay_0.2.2.2.2.2.2.2.1
theorem dX7_lay_12 : decode cX7_lay 12 = .ok (.isub, 1) := op_100 nb_dX7_lay_0.2.2.2.2.2.2.2.2.1
set_option maxRecDepth 100000 in
theorem dX7_lay_13 : decode cX7_lay 13 = .ok (.istore 4, 2) := (op_54 nb_dX7_lay_0.2.2.2.2.2.2.2.2.2.1).trans rfl
set_option maxRecDepth 100000 in
theorem dX7_lay_15 : decode cX7_lay 15 = .ok (.iload 4, 2) := (op_21 nb_dX7_lay_0.2.2.2.2.2.2.2.2.2.2.1).trans rfl
set_option maxRecDepth 100000 in
theorem dX7_lay_17 : decode cX7_lay 17 = .ok (.ifCond .lt 54, 3) := (op_155 nb_dX7_lay_0.2.2.2.2.2.2.2.2.2.2.2.1).trans rfl
theorem nb_dX7_lay_20 : bls_w cX7_lay [(20, [29]), (21, [16, 10]), (23, [112]), (24, [4]), (25, [100]), (26, [54, 5]), (28, [21, 5]), (30, [155, 0, 19]), (33, [21, 5]), (35, [27]), (36, [162, 0, 13]), (39, [42])] := bls_of (by decide +kernel)
theorem dX7_lay_20 : decode cX7_lay 20 = .ok (.iload_n 3, 1) := op_29 nb_dX7_lay_20.1
set_option maxRecDepth 100000 in
theorem dX7_lay_21 : decode cX7_lay 21 = .ok (.bipush 10, 2) := (op_16 nb_dX7_lay_20.2.1).trans rfl
theorem dX7_lay_23 : decode cX7_lay 23 = .ok (.irem, 1) := op_112 nb_dX7_lay_20.2.2.1
theorem dX7_lay_24 : decode cX7_lay 24 = .ok (.iconst 1, 1) := op_4 nb_dX7_lay_20.2.2.2.1
theorem dX7_lay_25 : decode cX7_lay 25 = .ok (.isub, 1) := op_100 nb_dX7_lay_20.2.2.2.2.1
set_option maxRecDepth 100000 in
theorem dX7_lay_26 : decode cX7_lay 26 = .ok (.istore 5, 2) := (op_54 nb_dX7_lay_20.2.2.2.2.2.1).trans rfl
set_option maxRecDepth 100000 in
theorem dX7_lay_28 : decode cX7_lay 28 = .ok (.iload 5, 2) := (op_21 nb_dX7_lay_20.2.2.2.2.2.2.1).trans rfl
set_option maxRecDepth 100000 in
theorem dX7_lay_30 : decode cX7_lay 30 = .ok (.ifCond .lt 19, 3) := (op_155 nb_dX7_lay_20.2.2.2.2.2.2.2.1).trans rfl
set_option maxRecDepth 100000 in
theorem dX7_lay_33 : decode cX7_lay 33 = .ok (.iload 5, 2) := (op_21 nb_dX7_lay_20.2.2.2.2.2.2.2.2.1).trans rfl
theorem dX7_lay_35 : decode cX7_lay 35 = .ok (.iload_n 1, 1) := op_27 nb_dX7_lay_20.2.2.2.2.2.2.2.2.2.1
set_option maxRecDepth 100000 in
theorem dX7_lay_36 : decode cX7_lay 36 = .ok (.if_icmp .ge 13, 3) := (op_162 nb_dX7_lay_20.2.2.2.2.2.2.2.2.2.2.1).trans rfl
theorem dX7_lay_39 : decode cX7_lay 39 = .ok (.aload_n 0, 1) := op_42 nb_dX7_lay_20.2.2.2.2.2.2.2.2.2.2.2.1
theorem nb_dX7_lay_40 : bls_w cX7_lay [(40, [180, 0, 18]), (43, [21, 5]), (45, [46]), (46, [155, 0, 5]), (49, [3]), (50, [172]), (51, [42]), (52, [180, 0, 18]), (55, [21, 5]), (57, [21, 4]), (59, [79]), (60, [29])] := bls_of (by decide +kernel)
set_option maxRecDepth 100000 in
theorem dX7_lay_40 : decode cX7_lay 40 = .ok (.getfield 18, 3) := (op_180 nb_dX7_lay_40.1).trans rfl
set_option maxRecDepth 100000 in
theorem dX7_lay_43 : decode cX7_lay 43 = .ok (.iload 5, 2) := (op_21 nb_dX7_lay_40.2.1).trans rfl
theorem dX7_lay_45 : decode cX7_lay 45 = .ok (.iaload, 1) := op_46 nb_dX7_lay_40.2.2.1
set_option maxRecDepth 100000 in
theorem dX7_lay_46 : decode cX7_lay 46 = .ok (.ifCond .lt 5, 3) := (op_155 nb_dX7_lay_40.2.2.2.1).trans rfl
theorem dX7_lay_49 : decode cX7_lay 49 = .ok (.iconst 0, 1) := op_3 nb_dX7_lay_40.2.2.2.2.1
theorem dX7_lay_50 : decode cX7_lay 50 = .ok (.ireturn, 1) := op_172 nb_dX7_lay_40.2.2.2.2.2.1
theorem dX7_lay_51 : decode cX7_lay 51 = .ok (.aload_n 0, 1) := op_42 nb_dX7_lay_40.2.2.2.2.2.2.1
set_option maxRecDepth 100000 in
theorem dX7_lay_52 : decode cX7_lay 52 = .ok (.getfield 18, 3) := (op_180 nb_dX7_lay_40.2.2.2.2.2.2.2.1).trans rfl
set_option maxRecDepth 100000 in
theorem dX7_lay_55 : decode cX7_lay 55 = .ok (.iload 5, 2) := (op_21 nb_dX7_lay_40.2.2.2.2.2.2.2.2.1).trans rfl
set_option maxRecDepth 100000 in
theorem dX7_lay_57 : decode cX7_lay 57 = .ok (.iload 4, 2) := (op_21 nb_dX7_lay_40.2.2.2.2.2.2.2.2.2.1).trans rfl
theorem dX7_lay_59 : decode cX7_lay 59 = .ok (.iastore, 1) := op_79 nb_dX7_lay_40.2.2.2.2.2.2.2.2.2.2.1
theorem dX7_lay_60 : decode cX7_lay 60 = .ok (.iload_n 3, 1) := op_29 nb_dX7_lay_40.2.2.2.2.2.2.2.2.2.2.2.1
theorem nb_dX7_lay_61 : bls_w cX7_lay [(61, [16, 10]), (63, [108]), (64, [62]), (65, [132, 4, 255]), (68, [167, 255, 203]), (71, [29]), (72, [154, 0, 7]), (75, [4]), (76, [167, 0, 4]), (79, [3]), (80, [172])] := bls_of (by decide +kernel)
set_option maxRecDepth 100000 in
theorem dX7_lay_61 : decode cX7_lay 61 = .ok (.bipush 10, 2) := (op_16 nb_dX7_lay_61.1).trans rfl
theorem dX7_lay_63 : decode cX7_lay 63 = .ok (.idiv, 1) := op_108 nb_dX7_lay_61.2.1
theorem dX7_lay_64 : decode cX7_lay 64 = .ok (.istore_n 3, 1) := op_62 nb_dX7_lay_61.2.2.1
set_option maxRecDepth 100000 in
theorem dX7_lay_65 : decode cX7_lay 65 = .ok (.iinc 4 (-1), 3) := (op_132 nb_dX7_lay_61.2.2.2.1).trans rfl
set_option maxRecDepth 100000 in
theorem dX7_lay_68 : decode cX7_lay 68 = .ok (.goto (-53), 3) := (op_167 nb_dX7_lay_61.2.2.2.2.1).trans rfl
theorem dX7_lay_71 : decode cX7_lay 71 = .ok (.iload_n 3, 1) := op_29 nb_dX7_lay_61.2.2.2.2.2.1
set_option maxRecDepth 100000 in
theorem dX7_lay_72 : decode cX7_lay 72 = .ok (.ifCond .ne 7, 3) := (op_154 nb_dX7_lay_61.2.2.2.2.2.2.1).trans rfl
theorem dX7_lay_75 : decode cX7_lay 75 = .ok (.iconst 1, 1) := op_4 nb_dX7_lay_61.2.2.2.2.2.2.2.1
set_option maxRecDepth 100000 in
theorem dX7_lay_76 : decode cX7_lay 76 = .ok (.goto 4, 3) := (op_167 nb_dX7_lay_61.2.2.2.2.2.2.2.2.1).trans rfl
theorem dX7_lay_79 : decode cX7_lay 79 = .ok (.iconst 0, 1) := op_3 nb_dX7_lay_61.2.2.2.2.2.2.2.2.2.1
theorem dX7_lay_80 : decode cX7_lay 80 = .ok (.ireturn, 1) := op_172 nb_dX7_lay_61.2.2.2.2.2.2.2.2.2.2.1
def fX7_lay_15 (N : Nat)  : Nat → Int32 → Int32 → Int32 → List Int32 → Option (Bool × List Int32)
  | 0 => fun _ _ _ _ => none
  | n + 1 => fun x1 x3 x4 v_at =>
    if x4 < 0 then
    (if x3 = 0 then
    (some (true, v_at))
    else (some (false, v_at)))
    else (mm_ck (mm_nz (10 : Int32)) (mm_nm (((mm_rem x3 (10 : Int32)) - (1 : Int32))) (fun (y_7 : Int32) =>
    if y_7 < 0 then
    (some (false, v_at))
    else (if x1 ≤ y_7 then
    (some (false, v_at))
    else (mm_ck (mm_inb y_7 v_at.length) (if (mm_ig v_at y_7) < 0 then
    (mm_ck (mm_inb y_7 v_at.length) (mm_nm (mm_is v_at y_7 x4) (fun (l_13 : List Int32) =>
    mm_ck (mm_nz (10 : Int32)) (mm_nm ((x3 / (10 : Int32))) (fun (y_15 : Int32) =>
    mm_nm (x4 + (-1 : Int32)) (fun (y_16 : Int32) =>
    fX7_lay_15 N n x1 y_15 y_16 l_13))))))
    else (some (false, v_at))))))))

set_option maxHeartbeats 4000000 in
set_option maxRecDepth 100000 in
theorem tX7_lay_15 {p : Program} {l : Launch} {e : Env} {s : State} {m : MethodId} {args : Array Value} {below : List Frame} {meth : Method} {c : Code} {D : va_G} {cI cL cS cH : ClassId} {A : Nat → Prop} {d : Nat} {a : Nat → Nat} (hd : 2 ≤ d) (C0 : mm_Cx p s m args meth c RX7 cX7_lay 6 (some .boolean) D (mm_T cI cL cS cH) A) (hA : ∀ q, s.heap.size ≤ q → A q) {v_list : List Int32} {v_found : List Int32} {r : Bool} {w_at : List Int32} (N : Nat)  : ∀ (n : Nat), ∀ (x1 : Int32) (x3 : Int32) (x4 : Int32) (v_at : List Int32) (H : Heap) (locs : List Loc) (ls : Array Slot), fX7_lay_15 N n x1 x3 x4 v_at = some (r, w_at) → va_P D mm_cl (wd_X7 cI cL cS cH a v_list v_found v_at) H → va_D A (wd_X7 cI cL cS cH a v_list v_found v_at) → va_S A s.heap H locs → lv_has ls 6 [(0, .ref (a 0)), (1, .int x1), (3, .int x3), (4, .int x4)] → W p l e (mm_rr d) s m args below meth c H locs 0 0 (mm_Z below D A (wd_X7 cI cL cS cH a v_list v_found w_at) (some (.int (mm_b r))) args s) (F0 m 15 ls []) := by
  obtain ⟨hx, hb, hml, hown, hts, hr, hlocks, hK, hSt⟩ := id C0
  intro n
  induction n with
  | zero =>
    intro x1 x3 x4 v_at H locs ls hf
    cases (show none = some _ from hf)
  | succ n ih =>
    intro x1 x3 x4 v_at H locs ls hf hP hD hS hl
    unfold fX7_lay_15 at hf
    refine lv_iload hx hb dX7_lay_15 (lv_at hl 3 rfl) ?_
    refine lv_if_lt (tgt := 71) hx hb dX7_lay_17 (by decide) (fun c_4 => ?_) (fun c_4 => ?_)
    · have hf := mm_ip hf c_4
      refine lv_iload_n hx hb dX7_lay_71 rfl (lv_at hl 2 rfl) ?_
      refine lv_if_ne (tgt := 79) hx hb dX7_lay_72 (by decide) (fun c_5 => ?_) (fun c_5 => ?_)
      · have hf := mm_in hf c_5
        refine lv_iconst (v := 0) hx hb dX7_lay_79 (by decide) ?_
        apply mm_sub2 hf
        exact mm_zret (v := false) C0 hP hD hS dX7_lay_80 (by decide)
      · have hf := mm_ip hf c_5
        refine lv_iconst (v := 1) hx hb dX7_lay_75 (by decide) ?_
        refine lv_goto (tgt := 80) hx hb dX7_lay_76 (by decide) ?_
        apply mm_sub2 hf
        exact mm_zret (v := true) C0 hP hD hS dX7_lay_80 (by decide)
    · have hf := mm_in hf c_4
      refine lv_iload_n hx hb dX7_lay_20 rfl (lv_at hl 2 rfl) ?_
      refine lv_bipush (v := 10) hx hb dX7_lay_21 (by decide) ?_
      obtain ⟨h_6, hf⟩ := mm_cks hf
      refine lv_irem hx hb dX7_lay_23 (mm_nzs h_6) ?_
      refine lv_iconst (v := 1) hx hb dX7_lay_24 (by decide) ?_
      refine lv_isub hx hb dX7_lay_25 ?_
      refine lv_topi (fun y_7 ey_7 => ?_)
      have hf := mm_nms hf ey_7
      refine lv_istore (lv' := [(5, .int y_7), (0, .ref (a 0)), (1, .int x1), (3, .int x3), (4, .int x4)]) hx hb dX7_lay_26 hl (by decide) rfl (fun ls hl => ?_)
      refine lv_iload hx hb dX7_lay_28 (lv_at hl 0 rfl) ?_
      refine lv_if_lt (tgt := 49) hx hb dX7_lay_30 (by decide) (fun c_8 => ?_) (fun c_8 => ?_)
      · have hf := mm_ip hf c_8
        refine lv_iconst (v := 0) hx hb dX7_lay_49 (by decide) ?_
        apply mm_sub2 hf
        exact mm_zret (v := false) C0 hP hD hS dX7_lay_50 (by decide)
      · have hf := mm_in hf c_8
        refine lv_iload hx hb dX7_lay_33 (lv_at hl 0 rfl) ?_
        refine lv_iload_n hx hb dX7_lay_35 rfl (lv_at hl 2 rfl) ?_
        refine lv_icmp_ge (tgt := 49) hx hb dX7_lay_36 (by decide) (fun c_9 => ?_) (fun c_9 => ?_)
        · have hf := mm_ip hf c_9
          refine lv_iconst (v := 0) hx hb dX7_lay_49 (by decide) ?_
          apply mm_sub2 hf
          exact mm_zret (v := false) C0 hP hD hS dX7_lay_50 (by decide)
        · have hf := mm_in hf c_9
          refine lv_aload_n hx hb dX7_lay_39 rfl (lv_at hl 1 rfl) ?_
          refine mm_get C0 hP iw_X7 0 rfl rfl 2 (by decide) fl_X7_18 rfl dX7_lay_40 ?_
          refine lv_iload hx hb dX7_lay_43 (lv_at hl 0 rfl) ?_
          obtain ⟨h_10, hf⟩ := mm_cks hf
          refine mm_iald C0 hP 3 rfl h_10 dX7_lay_45 ?_
          refine lv_if_lt (tgt := 51) hx hb dX7_lay_46 (by decide) (fun c_11 => ?_) (fun c_11 => ?_)
          · have hf := mm_ip hf c_11
            refine lv_aload_n hx hb dX7_lay_51 rfl (lv_at hl 1 rfl) ?_
            refine mm_get C0 hP iw_X7 0 rfl rfl 2 (by decide) fl_X7_18 rfl dX7_lay_52 ?_
            refine lv_iload hx hb dX7_lay_55 (lv_at hl 0 rfl) ?_
            refine lv_iload hx hb dX7_lay_57 (lv_at hl 4 rfl) ?_
            obtain ⟨h_12, hf⟩ := mm_cks hf
            refine mm_iast C0 hP hD hS 3 rfl h_12 dX7_lay_59 (w2 := (wd_X7 cI cL cS cH a v_list v_found (mm_is v_at y_7 x4))) rfl (fun H locs hP hD hS => ?_)
            generalize el_13 : (mm_is v_at y_7 x4) = l_13 at hP hD
            have hf := mm_nms hf el_13.symm
            refine lv_iload_n hx hb dX7_lay_60 rfl (lv_at hl 3 rfl) ?_
            refine lv_bipush (v := 10) hx hb dX7_lay_61 (by decide) ?_
            obtain ⟨h_14, hf⟩ := mm_cks hf
            refine lv_idiv hx hb dX7_lay_63 (mm_nzs h_14) ?_
            refine lv_topi (fun y_15 ey_15 => ?_)
            have hf := mm_nms hf ey_15
            refine lv_istore_n (lv' := [(3, .int y_15), (5, .int y_7), (0, .ref (a 0)), (1, .int x1), (4, .int x4)]) hx hb dX7_lay_64 rfl hl (by decide) rfl (fun ls hl => ?_)
            obtain ⟨y_16, ey_16⟩ : ∃ z : Int32, z = x4 + (-1 : Int32) := ⟨_, rfl⟩
            have hf := mm_nms hf ey_16
            refine lv_iinc (v := y_16) (lv' := [(4, .int y_16), (3, .int y_15), (5, .int y_7), (0, .ref (a 0)), (1, .int x1)]) hx hb dX7_lay_65 hl (k := 4) rfl (by rw [ey_16]; rfl) (by decide) rfl (fun ls hl => ?_)
            refine lv_goto (tgt := 15) hx hb dX7_lay_68 (by decide) ?_
            exact ih _ _ _ _ H locs ls hf hP hD hS (lv_sub hl [3, 4, 1, 0] rfl)
          · have hf := mm_in hf c_11
            refine lv_iconst (v := 0) hx hb dX7_lay_49 (by decide) ?_
            apply mm_sub2 hf
            exact mm_zret (v := false) C0 hP hD hS dX7_lay_50 (by decide)

def fX7_lay (N : Nat) (x1 : Int32) (x2 : Int32) (v_at : List Int32) : Option (Bool × List Int32) :=
    mm_bd1 (fJ7_fill_53178 N (-1 : Int32) v_at) (fun (w_1 : List Int32) =>
    mm_nm ((x1 - (1 : Int32))) (fun (y_3 : Int32) =>
    fX7_lay_15 N N x1 x2 y_3 w_1))

set_option maxHeartbeats 4000000 in
set_option maxRecDepth 100000 in
theorem ctX7_lay {l : Launch} {D : va_G} {cI cL cS cH : ClassId} {a : Nat → Nat} {x1 : Int32} {x2 : Int32} {v_list : List Int32} {v_found : List Int32} {v_at : List Int32} {r : Bool} {w_at : List Int32} {N d : Nat} (hd : 2 ≤ d) (hf : fX7_lay N x1 x2 v_at = some (r, w_at)) : mm_Ct l yX7_lay cX7_lay 6 (some .boolean) d D (mm_T cI cL cS cH) [.ref (a 0), .int x1, .int x2] (wd_X7 cI cL cS cH a v_list v_found v_at) (wd_X7 cI cL cS cH a v_list v_found w_at) (some (.int (mm_b r))) := by
  refine mm_of (by decide) (Nat.le_of_ble_eq_true rfl) ?_
  intro p e s m args below meth c A H locs ls C0 hP hD hA hS hl
  have C0 : mm_Cx p s m args meth c RX7 cX7_lay 6 (some .boolean) D (mm_T cI cL cS cH) A := C0
  obtain ⟨hx, hb, hml, hown, hts, hr, hlocks, hK, hSt⟩ := id C0
  have hl : lv_has ls 6 [(0, .ref (a 0)), (1, .int x1), (2, .int x2)] := hl
  unfold fX7_lay at hf
  refine lv_aload_n hx hb dX7_lay_0 rfl (lv_at hl 0 rfl) ?_
  refine mm_get C0 hP iw_X7 0 rfl rfl 2 (by decide) fl_X7_18 rfl dX7_lay_1 ?_
  refine lv_iconst (v := -1) hx hb dX7_lay_4 (by decide) ?_
  obtain ⟨w_1, hc_2, hf⟩ := mm_bd1s hf
  refine mm_callT (w2 := (wd_X7 cI cL cS cH a v_list v_found w_1)) (rest := []) C0 lk_X7_21 (ctJ7_fill_53178 (a := (fun k => a (k + 3))) (d := d - 1) (by omega) hc_2) (by omega) rfl hl.1 rfl (mm_cat rfl) dX7_lay_5 hP hD hA hS [false, false, false, true] rfl rfl rfl rfl (fun H locs hP hD hS => ?_)
  refine W.eq (g2 := F0 m 8 ls []) rfl ?_
  refine lv_iload_n hx hb dX7_lay_8 rfl (lv_at hl 2 rfl) ?_
  refine lv_istore_n (lv' := [(3, .int x2), (0, .ref (a 0)), (1, .int x1), (2, .int x2)]) hx hb dX7_lay_9 rfl hl (by decide) rfl (fun ls hl => ?_)
  refine lv_iload_n hx hb dX7_lay_10 rfl (lv_at hl 2 rfl) ?_
  refine lv_iconst (v := 1) hx hb dX7_lay_11 (by decide) ?_
  refine lv_isub hx hb dX7_lay_12 ?_
  refine lv_topi (fun y_3 ey_3 => ?_)
  have hf := mm_nms hf ey_3
  refine lv_istore (lv' := [(4, .int y_3), (3, .int x2), (0, .ref (a 0)), (1, .int x1), (2, .int x2)]) hx hb dX7_lay_13 hl (by decide) rfl (fun ls hl => ?_)
  exact tX7_lay_15 hd C0 hA N  N _ _ _ _ H locs ls hf hP hD hS (lv_sub hl [2, 3, 1, 0] rfl)

theorem nb_dX7_isWithin_0 : bls_w cX7_isWithin [(0, [42]), (1, [180, 0, 18]), (4, [27]), (5, [46]), (6, [42]), (7, [180, 0, 18]), (10, [27]), (11, [4]), (12, [96]), (13, [46]), (14, [184, 0, 34]), (17, [62])] := bls_of (by decide +kernel)
theorem dX7_isWithin_0 : decode cX7_isWithin 0 = .ok (.aload_n 0, 1) := op_42 nb_dX7_isWithin_0.1
set_option maxRecDepth 100000 in
theorem dX7_isWithin_1 : decode cX7_isWithin 1 = .ok (.getfield 18, 3) := (op_180 nb_dX7_isWithin_0.2.1).trans rfl
theorem dX7_isWithin_4 : decode cX7_isWithin 4 = .ok (.iload_n 1, 1) := op_27 nb_dX7_isWithin_0.2.2.1
theorem dX7_isWithin_5 : decode cX7_isWithin 5 = .ok (.iaload, 1) := op_46 nb_dX7_isWithin_0.2.2.2.1
theorem dX7_isWithin_6 : decode cX7_isWithin 6 = .ok (.aload_n 0, 1) := op_42 nb_dX7_isWithin_0.2.2.2.2.1
set_option maxRecDepth 100000 in
theorem dX7_isWithin_7 : decode cX7_isWithin 7 = .ok (.getfield 18, 3) := (op_180 nb_dX7_isWithin_0.2.2.2.2.2.1).trans rfl
theorem dX7_isWithin_10 : decode cX7_isWithin 10 = .ok (.iload_n 1, 1) := op_27 nb_dX7_isWithin_0.2.2.2.2.2.2.1
theorem dX7_isWithin_11 : decode cX7_isWithin 11 = .ok (.iconst 1, 1) := op_4 nb_dX7_isWithin_0.2.2.2.2.2.2.2.1
theorem dX7_isWithin_12 : decode cX7_isWithin 12 = .ok (.iadd, 1) := op_96 nb_dX7_isWithin_0.2.2.2.2.2.2.2.2.1
theorem dX7_isWithin_13 : decode cX7_isWithin 13 = .ok (.iaload, 1) := op_46 nb_dX7_isWithin_0.2.2.2.2.2.2.2.2.2.1
set_option maxRecDepth 100000 in
theorem dX7_isWithin_14 : decode cX7_isWithin 14 = .ok (.invokestatic 34, 3) := (op_184 nb_dX7_isWithin_0.2.2.2.2.2.2.2.2.2.2.1).trans rfl
theorem dX7_isWithin_17 : decode cX7_isWithin 17 = .ok (.istore_n 3, 1) := op_62 nb_dX7_isWithin_0.2.2.2.2.2.2.2.2.2.2.2.1
theorem nb_dX7_isWithin_18 : bls_w cX7_isWithin [(18, [42]), (19, [180, 0, 18]), (22, [27]), (23, [46]), (24, [42]), (25, [180, 0, 18]), (28, [27]), (29, [4]), (30, [96]), (31, [46]), (32, [184, 0, 40]), (35, [54, 4])] := bls_of (by decide +kernel)
theorem dX7_isWithin_18 : decode cX7_isWithin 18 = .ok (.aload_n 0, 1) := op_42 nb_dX7_isWithin_18.1
set_option maxRecDepth 100000 in
theorem dX7_isWithin_19 : decode cX7_isWithin 19 = .ok (.getfield 18, 3) := (op_180 nb_dX7_isWithin_18.2.1).trans rfl
theorem dX7_isWithin_22 : decode cX7_isWithin 22 = .ok (.iload_n 1, 1) := op_27 nb_dX7_isWithin_18.2.2.1
theorem dX7_isWithin_23 : decode cX7_isWithin 23 = .ok (.iaload, 1) := op_46 nb_dX7_isWithin_18.2.2.2.1
theorem dX7_isWithin_24 : decode cX7_isWithin 24 = .ok (.aload_n 0, 1) := op_42 nb_dX7_isWithin_18.2.2.2.2.1
set_option maxRecDepth 100000 in
theorem dX7_isWithin_25 : decode cX7_isWithin 25 = .ok (.getfield 18, 3) := (op_180 nb_dX7_isWithin_18.2.2.2.2.2.1).trans rfl
theorem dX7_isWithin_28 : decode cX7_isWithin 28 = .ok (.iload_n 1, 1) := op_27 nb_dX7_isWithin_18.2.2.2.2.2.2.1
theorem dX7_isWithin_29 : decode cX7_isWithin 29 = .ok (.iconst 1, 1) := op_4 nb_dX7_isWithin_18.2.2.2.2.2.2.2.1
theorem dX7_isWithin_30 : decode cX7_isWithin 30 = .ok (.iadd, 1) := op_96 nb_dX7_isWithin_18.2.2.2.2.2.2.2.2.1
theorem dX7_isWithin_31 : decode cX7_isWithin 31 = .ok (.iaload, 1) := op_46 nb_dX7_isWithin_18.2.2.2.2.2.2.2.2.2.1
set_option maxRecDepth 100000 in
theorem dX7_isWithin_32 : decode cX7_isWithin 32 = .ok (.invokestatic 40, 3) := (op_184 nb_dX7_isWithin_18.2.2.2.2.2.2.2.2.2.2.1).trans rfl
set_option maxRecDepth 100000 in
theorem dX7_isWithin_35 : decode cX7_isWithin 35 = .ok (.istore 4, 2) := (op_54 nb_dX7_isWithin_18.2.2.2.2.2.2.2.2.2.2.2.1).trans rfl
theorem nb_dX7_isWithin_37 : bls_w cX7_isWithin [(37, [29]), (38, [28]), (39, [162, 0, 13]), (42, [28]), (43, [21, 4]), (45, [162, 0, 7]), (48, [4]), (49, [167, 0, 4]), (52, [3]), (53, [172])] := bls_of (by decide +kernel)
theorem dX7_isWithin_37 : decode cX7_isWithin 37 = .ok (.iload_n 3, 1) := op_29 nb_dX7_isWithin_37.1
theorem dX7_isWithin_38 : decode cX7_isWithin 38 = .ok (.iload_n 2, 1) := op_28 nb_dX7_isWithin_37.2.1
set_option maxRecDepth 100000 in
theorem dX7_isWithin_39 : decode cX7_isWithin 39 = .ok (.if_icmp .ge 13, 3) := (op_162 nb_dX7_isWithin_37.2.2.1).trans rfl
theorem dX7_isWithin_42 : decode cX7_isWithin 42 = .ok (.iload_n 2, 1) := op_28 nb_dX7_isWithin_37.2.2.2.1
set_option maxRecDepth 100000 in
theorem dX7_isWithin_43 : decode cX7_isWithin 43 = .ok (.iload 4, 2) := (op_21 nb_dX7_isWithin_37.2.2.2.2.1).trans rfl
set_option maxRecDepth 100000 in
theorem dX7_isWithin_45 : decode cX7_isWithin 45 = .ok (.if_icmp .ge 7, 3) := (op_162 nb_dX7_isWithin_37.2.2.2.2.2.1).trans rfl
theorem dX7_isWithin_48 : decode cX7_isWithin 48 = .ok (.iconst 1, 1) := op_4 nb_dX7_isWithin_37.2.2.2.2.2.2.1
set_option maxRecDepth 100000 in
theorem dX7_isWithin_49 : decode cX7_isWithin 49 = .ok (.goto 4, 3) := (op_167 nb_dX7_isWithin_37.2.2.2.2.2.2.2.1).trans rfl
theorem dX7_isWithin_52 : decode cX7_isWithin 52 = .ok (.iconst 0, 1) := op_3 nb_dX7_isWithin_37.2.2.2.2.2.2.2.2.1
theorem dX7_isWithin_53 : decode cX7_isWithin 53 = .ok (.ireturn, 1) := op_172 nb_dX7_isWithin_37.2.2.2.2.2.2.2.2.2.1
def fX7_isWithin (N : Nat) (x1 : Int32) (x2 : Int32) (v_at : List Int32) : Option (Bool) :=
    mm_ck (mm_inb x1 v_at.length) (mm_ck (mm_inb (x1 + (1 : Int32)) v_at.length) (mm_nm ((mm_min (mm_ig v_at x1) (mm_ig v_at (x1 + (1 : Int32))))) (fun (y_3 : Int32) =>
    mm_ck (mm_inb x1 v_at.length) (mm_ck (mm_inb (x1 + (1 : Int32)) v_at.length) (mm_nm ((mm_max (mm_ig v_at x1) (mm_ig v_at (x1 + (1 : Int32))))) (fun (y_6 : Int32) =>
    if x2 ≤ y_3 then
    (some (false))
    else (if y_6 ≤ x2 then
    (some (false))
    else (some (true)))))))))

set_option maxHeartbeats 4000000 in
set_option maxRecDepth 100000 in
theorem ctX7_isWithin {l : Launch} {D : va_G} {cI cL cS cH : ClassId} {a : Nat → Nat} {x1 : Int32} {x2 : Int32} {v_list : List Int32} {v_found : List Int32} {v_at : List Int32} {r : Bool} {N d : Nat} (hd : 1 ≤ d) (hf : fX7_isWithin N x1 x2 v_at = some r) : mm_Ct l yX7_isWithin cX7_isWithin 5 (some .boolean) d D (mm_T cI cL cS cH) [.ref (a 0), .int x1, .int x2] (wd_X7 cI cL cS cH a v_list v_found v_at) (wd_X7 cI cL cS cH a v_list v_found v_at) (some (.int (mm_b r))) := by
  refine mm_of (by decide) (Nat.le_of_ble_eq_true rfl) ?_
  intro p e s m args below meth c A H locs ls C0 hP hD hA hS hl
  have C0 : mm_Cx p s m args meth c RX7 cX7_isWithin 5 (some .boolean) D (mm_T cI cL cS cH) A := C0
  obtain ⟨hx, hb, hml, hown, hts, hr, hlocks, hK, hSt⟩ := id C0
  have hl : lv_has ls 5 [(0, .ref (a 0)), (1, .int x1), (2, .int x2)] := hl
  unfold fX7_isWithin at hf
  refine lv_aload_n hx hb dX7_isWithin_0 rfl (lv_at hl 0 rfl) ?_
  refine mm_get C0 hP iw_X7 0 rfl rfl 2 (by decide) fl_X7_18 rfl dX7_isWithin_1 ?_
  refine lv_iload_n hx hb dX7_isWithin_4 rfl (lv_at hl 1 rfl) ?_
  obtain ⟨h_1, hf⟩ := mm_cks hf
  refine mm_iald C0 hP 3 rfl h_1 dX7_isWithin_5 ?_
  refine lv_aload_n hx hb dX7_isWithin_6 rfl (lv_at hl 0 rfl) ?_
  refine mm_get C0 hP iw_X7 0 rfl rfl 2 (by decide) fl_X7_18 rfl dX7_isWithin_7 ?_
  refine lv_iload_n hx hb dX7_isWithin_10 rfl (lv_at hl 1 rfl) ?_
  refine lv_iconst (v := 1) hx hb dX7_isWithin_11 (by decide) ?_
  refine lv_iadd hx hb dX7_isWithin_12 ?_
  obtain ⟨h_2, hf⟩ := mm_cks hf
  refine mm_iald C0 hP 3 rfl h_2 dX7_isWithin_13 ?_
  refine mm_mmin C0 lm_X7_34 (by omega) hl.1 (mm_cat rfl) dX7_isWithin_14 ?_
  refine lv_topi (fun y_3 ey_3 => ?_)
  have hf := mm_nms hf ey_3
  refine lv_istore_n (lv' := [(3, .int y_3), (0, .ref (a 0)), (1, .int x1), (2, .int x2)]) hx hb dX7_isWithin_17 rfl hl (by decide) rfl (fun ls hl => ?_)
  refine lv_aload_n hx hb dX7_isWithin_18 rfl (lv_at hl 1 rfl) ?_
  refine mm_get C0 hP iw_X7 0 rfl rfl 2 (by decide) fl_X7_18 rfl dX7_isWithin_19 ?_
  refine lv_iload_n hx hb dX7_isWithin_22 rfl (lv_at hl 2 rfl) ?_
  obtain ⟨h_4, hf⟩ := mm_cks hf
  refine mm_iald C0 hP 3 rfl h_4 dX7_isWithin_23 ?_
  refine lv_aload_n hx hb dX7_isWithin_24 rfl (lv_at hl 1 rfl) ?_
  refine mm_get C0 hP iw_X7 0 rfl rfl 2 (by decide) fl_X7_18 rfl dX7_isWithin_25 ?_
  refine lv_iload_n hx hb dX7_isWithin_28 rfl (lv_at hl 2 rfl) ?_
  refine lv_iconst (v := 1) hx hb dX7_isWithin_29 (by decide) ?_
  refine lv_iadd hx hb dX7_isWithin_30 ?_
  obtain ⟨h_5, hf⟩ := mm_cks hf
  refine mm_iald C0 hP 3 rfl h_5 dX7_isWithin_31 ?_
  refine mm_mmax C0 lm_X7_40 (by omega) hl.1 (mm_cat rfl) dX7_isWithin_32 ?_
  refine lv_topi (fun y_6 ey_6 => ?_)
  have hf := mm_nms hf ey_6
  refine lv_istore (lv' := [(4, .int y_6), (3, .int y_3), (0, .ref (a 0)), (1, .int x1), (2, .int x2)]) hx hb dX7_isWithin_35 hl (by decide) rfl (fun ls hl => ?_)
  refine lv_iload_n hx hb dX7_isWithin_37 rfl (lv_at hl 1 rfl) ?_
  refine lv_iload_n hx hb dX7_isWithin_38 rfl (lv_at hl 4 rfl) ?_
  refine lv_icmp_ge (tgt := 52) hx hb dX7_isWithin_39 (by decide) (fun c_7 => ?_) (fun c_7 => ?_)
  · have hf := mm_ip hf c_7
    refine lv_iconst (v := 0) hx hb dX7_isWithin_52 (by decide) ?_
    obtain rfl := mm_inj1 hf
    exact mm_zret (v := false) C0 hP hD hS dX7_isWithin_53 (by decide)
  · have hf := mm_in hf c_7
    refine lv_iload_n hx hb dX7_isWithin_42 rfl (lv_at hl 4 rfl) ?_
    refine lv_iload hx hb dX7_isWithin_43 (lv_at hl 0 rfl) ?_
    refine lv_icmp_ge (tgt := 52) hx hb dX7_isWithin_45 (by decide) (fun c_8 => ?_) (fun c_8 => ?_)
    · have hf := mm_ip hf c_8
      refine lv_iconst (v := 0) hx hb dX7_isWithin_52 (by decide) ?_
      obtain rfl := mm_inj1 hf
      exact mm_zret (v := false) C0 hP hD hS dX7_isWithin_53 (by decide)
    · have hf := mm_in hf c_8
      refine lv_iconst (v := 1) hx hb dX7_isWithin_48 (by decide) ?_
      refine lv_goto (tgt := 53) hx hb dX7_isWithin_49 (by decide) ?_
      obtain rfl := mm_inj1 hf
      exact mm_zret (v := true) C0 hP hD hS dX7_isWithin_53 (by decide)

theorem nb_dX7_crossing_0 : bls_w cX7_crossing [(0, [42]), (1, [27]), (2, [42]), (3, [180, 0, 18]), (6, [28]), (7, [46]), (8, [182, 0, 31]), (11, [42]), (12, [27]), (13, [42]), (14, [180, 0, 18]), (17, [28])] := bls_of (by decide +kernel)
theorem dX7_crossing_0 : decode cX7_crossing 0 = .ok (.aload_n 0, 1) := op_42 nb_dX7_crossing_0.1
theorem dX7_crossing_1 : decode cX7_crossing 1 = .ok (.iload_n 1, 1) := op_27 nb_dX7_crossing_0.2.1
theorem dX7_crossing_2 : decode cX7_crossing 2 = .ok (.aload_n 0, 1) := op_42 nb_dX7_crossing_0.2.2.1
set_option maxRecDepth 100000 in
theorem dX7_crossing_3 : decode cX7_crossing 3 = .ok (.getfield 18, 3) := (op_180 nb_dX7_crossing_0.2.2.2.1).trans rfl
theorem dX7_crossing_6 : decode cX7_crossing 6 = .ok (.iload_n 2, 1) := op_28 nb_dX7_crossing_0.2.2.2.2.1
theorem dX7_crossing_7 : decode cX7_crossing 7 = .ok (.iaload, 1) := op_46 nb_dX7_crossing_0.2.2.2.2.2.1
set_option maxRecDepth 100000 in
theorem dX7_crossing_8 : decode cX7_crossing 8 = .ok (.invokevirtual 31, 3) := (op_182 nb_dX7_crossing_0.2.2.2.2.2.2.1).trans rfl
theorem dX7_crossing_11 : decode cX7_crossing 11 = .ok (.aload_n 0, 1) := op_42 nb_dX7_crossing_0.2.2.2.2.2.2.2.1
theorem dX7_crossing_12 : decode cX7_crossing 12 = .ok (.iload_n 1, 1) := op_27 nb_dX7_crossing_0.2.2.2.2.2.2.2.2.1
theorem dX7_crossing_13 : decode cX7_crossing 13 = .ok (.aload_n 0, 1) := op_42 nb_dX7_crossing_0.2.2.2.2.2.2.2.2.2.1
set_option maxRecDepth 100000 in
theorem dX7_crossing_14 : decode cX7_crossing 14 = .ok (.getfield 18, 3) := (op_180 nb_dX7_crossing_0.2.2.2.2.2.2.2.2.2.2.1).trans rfl
theorem dX7_crossing_17 : decode cX7_crossing 17 = .ok (.iload_n 2, 1) := op_28 nb_dX7_crossing_0.2.2.2.2.2.2.2.2.2.2.2.1
theorem nb_dX7_crossing_18 : bls_w cX7_crossing [(18, [4]), (19, [96]), (20, [46]), (21, [182, 0, 31]), (24, [159, 0, 7]), (27, [4]), (28, [167, 0, 4]), (31, [3]), (32, [172])] := bls_of (by decide +kernel)
theorem dX7_crossing_18 : decode cX7_crossing 18 = .ok (.iconst 1, 1) := op_4 nb_dX7_crossing_18.1
theorem dX7_crossing_19 : decode cX7_crossing 19 = .ok (.iadd, 1) := op_96 nb_dX7_crossing_18.2.1
theorem dX7_crossing_20 : decode cX7_crossing 20 = .ok (.iaload, 1) := op_46 nb_dX7_crossing_18.2.2.1
set_option maxRecDepth 100000 in
theorem dX7_crossing_21 : decode cX7_crossing 21 = .ok (.invokevirtual 31, 3) := (op_182 nb_dX7_crossing_18.2.2.2.1).trans rfl
set_option maxRecDepth 100000 in
theorem dX7_crossing_24 : decode cX7_crossing 24 = .ok (.if_icmp .eq 7, 3) := (op_159 nb_dX7_crossing_18.2.2.2.2.1).trans rfl
theorem dX7_crossing_27 : decode cX7_crossing 27 = .ok (.iconst 1, 1) := op_4 nb_dX7_crossing_18.2.2.2.2.2.1
set_option maxRecDepth 100000 in
theorem dX7_crossing_28 : decode cX7_crossing 28 = .ok (.goto 4, 3) := (op_167 nb_dX7_crossing_18.2.2.2.2.2.2.1).trans rfl
theorem dX7_crossing_31 : decode cX7_crossing 31 = .ok (.iconst 0, 1) := op_3 nb_dX7_crossing_18.2.2.2.2.2.2.2.1
theorem dX7_crossing_32 : decode cX7_crossing 32 = .ok (.ireturn, 1) := op_172 nb_dX7_crossing_18.2.2.2.2.2.2.2.2.1
def fX7_crossing (N : Nat) (x1 : Int32) (x2 : Int32) (v_at : List Int32) : Option (Bool) :=
    mm_ck (mm_inb x2 v_at.length) (mm_bd1 (fX7_isWithin N x1 (mm_ig v_at x2) v_at) (fun (r_2 : Bool) =>
    mm_ck (mm_inb (x2 + (1 : Int32)) v_at.length) (mm_bd1 (fX7_isWithin N x1 (mm_ig v_at (x2 + (1 : Int32))) v_at) (fun (r_5 : Bool) =>
    if (mm_b r_2) = (mm_b r_5) then
    (some (false))
    else (some (true))))))

set_option maxHeartbeats 4000000 in
set_option maxRecDepth 100000 in
theorem ctX7_crossing {l : Launch} {D : va_G} {cI cL cS cH : ClassId} {a : Nat → Nat} {x1 : Int32} {x2 : Int32} {v_list : List Int32} {v_found : List Int32} {v_at : List Int32} {r : Bool} {N d : Nat} (hd : 2 ≤ d) (hf : fX7_crossing N x1 x2 v_at = some r) : mm_Ct l yX7_crossing cX7_crossing 3 (some .boolean) d D (mm_T cI cL cS cH) [.ref (a 0), .int x1, .int x2] (wd_X7 cI cL cS cH a v_list v_found v_at) (wd_X7 cI cL cS cH a v_list v_found v_at) (some (.int (mm_b r))) := by
  refine mm_of (by decide) (Nat.le_of_ble_eq_true rfl) ?_
  intro p e s m args below meth c A H locs ls C0 hP hD hA hS hl
  have C0 : mm_Cx p s m args meth c RX7 cX7_crossing 3 (some .boolean) D (mm_T cI cL cS cH) A := C0
  obtain ⟨hx, hb, hml, hown, hts, hr, hlocks, hK, hSt⟩ := id C0
  have hl : lv_has ls 3 [(0, .ref (a 0)), (1, .int x1), (2, .int x2)] := hl
  unfold fX7_crossing at hf
  refine lv_aload_n hx hb dX7_crossing_0 rfl (lv_at hl 0 rfl) ?_
  refine lv_iload_n hx hb dX7_crossing_1 rfl (lv_at hl 1 rfl) ?_
  refine lv_aload_n hx hb dX7_crossing_2 rfl (lv_at hl 0 rfl) ?_
  refine mm_get C0 hP iw_X7 0 rfl rfl 2 (by decide) fl_X7_18 rfl dX7_crossing_3 ?_
  refine lv_iload_n hx hb dX7_crossing_6 rfl (lv_at hl 2 rfl) ?_
  obtain ⟨h_1, hf⟩ := mm_cks hf
  refine mm_iald C0 hP 3 rfl h_1 dX7_crossing_7 ?_
  obtain ⟨r_2, hc_3, hf⟩ := mm_bd1s hf
  refine mm_callVF (q0 := 0) (ci := 7) (rest := []) C0 lk_X7_31 (ctX7_isWithin (a := a) (d := d - 1) (by omega) hc_3) (by omega) rfl hl.1 rfl (mm_cat rfl) dX7_crossing_8 hP hD hA hS rfl rfl (fun H locs hP hD hS => ?_)
  refine W.eq (g2 := F0 m 11 ls [.int (mm_b r_2)]) rfl ?_
  refine lv_aload_n hx hb dX7_crossing_11 rfl (lv_at hl 0 rfl) ?_
  refine lv_iload_n hx hb dX7_crossing_12 rfl (lv_at hl 1 rfl) ?_
  refine lv_aload_n hx hb dX7_crossing_13 rfl (lv_at hl 0 rfl) ?_
  refine mm_get C0 hP iw_X7 0 rfl rfl 2 (by decide) fl_X7_18 rfl dX7_crossing_14 ?_
  refine lv_iload_n hx hb dX7_crossing_17 rfl (lv_at hl 2 rfl) ?_
  refine lv_iconst (v := 1) hx hb dX7_crossing_18 (by decide) ?_
  refine lv_iadd hx hb dX7_crossing_19 ?_
  obtain ⟨h_4, hf⟩ := mm_cks hf
  refine mm_iald C0 hP 3 rfl h_4 dX7_crossing_20 ?_
  obtain ⟨r_5, hc_6, hf⟩ := mm_bd1s hf
  refine mm_callVF (q0 := 0) (ci := 7) (rest := [.int (mm_b r_2)]) C0 lk_X7_31 (ctX7_isWithin (a := a) (d := d - 1) (by omega) hc_6) (by omega) rfl hl.1 rfl (mm_cat rfl) dX7_crossing_21 hP hD hA hS rfl rfl (fun H locs hP hD hS => ?_)
  refine W.eq (g2 := F0 m 24 ls [.int (mm_b r_5), .int (mm_b r_2)]) rfl ?_
  refine lv_icmp_eq (tgt := 31) hx hb dX7_crossing_24 (by decide) (fun c_7 => ?_) (fun c_7 => ?_)
  · have hf := mm_ip hf c_7
    refine lv_iconst (v := 0) hx hb dX7_crossing_31 (by decide) ?_
    obtain rfl := mm_inj1 hf
    exact mm_zret (v := false) C0 hP hD hS dX7_crossing_32 (by decide)
  · have hf := mm_in hf c_7
    refine lv_iconst (v := 1) hx hb dX7_crossing_27 (by decide) ?_
    refine lv_goto (tgt := 32) hx hb dX7_crossing_28 (by decide) ?_
    obtain rfl := mm_inj1 hf
    exact mm_zret (v := true) C0 hP hD hS dX7_crossing_32 (by decide)

theorem nb_dX7_firstCross_0 : bls_w cX7_firstCross [(0, [3]), (1, [61]), (2, [28]), (3, [27]), (4, [4]), (5, [100]), (6, [162, 0, 42]), (9, [28]), (10, [5]), (11, [96]), (12, [62]), (13, [29])] := bls_of (by decide +kernel)
theorem dX7_firstCross_0 : decode cX7_firstCross 0 = .ok (.iconst 0, 1) := op_3 nb_dX7_firstCross_0.1
theorem dX7_firstCross_1 : decode cX7_firstCross 1 = .ok (.istore_n 2, 1) := op_61 nb_dX7_firstCross_0.2.1
theorem dX7_firstCross_2 : decode cX7_firstCross 2 = .ok (.iload_n 2, 1) := op_28 nb_dX7_firstCross_0.2.2.1
theorem dX7_firstCross_3 : decode cX7_firstCross 3 = .ok (.iload_n 1, 1) := op_27 nb_dX7_firstCross_0.2.2.2.1
theorem dX7_firstCross_4 : decode cX7_firstCross 4 = .ok (.iconst 1, 1) := op_4 nb_dX7_firstCross_0.2.2.2.2.1
theorem dX7_firstCross_5 : decode cX7_firstCross 5 = .ok (.isub, 1) := op_100 nb_dX7_firstCross_0.2.2.2.2.2.1
set_option maxRecDepth 100000 in
theorem dX7_firstCross_6 : decode cX7_firstCross 6 = .ok (.if_icmp .ge 42, 3) := (op_162 nb_dX7_firstCross_0.2.2.2.2.2.2.1).trans rfl
theorem dX7_firstCross_9 : decode cX7_firstCross 9 = .ok (.iload_n 2, 1) := op_28 nb_dX7_firstCross_0.2.2.2.2.2.2.2.1
theorem dX7_firstCross_10 : decode cX7_firstCross 10 = .ok (.iconst 2, 1) := op_5 nb_dX7_firstCross_0.2.2.2.2.2.2.2.2.1
theorem dX7_firstCross_11 : decode cX7_firstCross 11 = .ok (.iadd, 1) := op_96 nb_dX7_firstCross_0.2.2.2.2.2.2.2.2.2.1
theorem dX7_firstCross_12 : decode cX7_firstCross 12 = .ok (.istore_n 3, 1) := op_62 nb_dX7_firstCross_0.2.2.2.2.2.2.2.2.2.2.1
theorem dX7_firstCross_13 : decode cX7_firstCross 13 = .ok (.iload_n 3, 1) := op_29 nb_dX7_firstCross_0.2.2.2.2.2.2.2.2.2.2.2.1
theorem nb_dX7_firstCross_14 : bls_w cX7_firstCross [(14, [27]), (15, [4]), (16, [100]), (17, [162, 0, 25]), (20, [42]), (21, [28]), (22, [29]), (23, [182, 0, 27]), (26, [153, 0, 10]), (29, [16, 10]), (31, [28]), (32, [104])] := bls_of (by decide +kernel)
theorem dX7_firstCross_14 : decode cX7_firstCross 14 = .ok (.iload_n 1, 1) := op_27 nb_dX7_firstCross_14.1
theorem dX7_firstCross_15 : decode cX7_firstCross 15 = .ok (.iconst 1, 1) := op_4 nb_dX7_firstCross_14.2.1
theorem dX7_firstCross_16 : decode cX7_firstCross 16 = .ok (.isub, 1) := op_100 nb_dX7_firstCross_14.2.2.1
set_option maxRecDepth 100000 in
theorem dX7_firstCross_17 : decode cX7_firstCross 17 = .ok (.if_icmp .ge 25, 3) := (op_162 nb_dX7_firstCross_14.2.2.2.1).trans rfl
theorem dX7_firstCross_20 : decode cX7_firstCross 20 = .ok (.aload_n 0, 1) := op_42 nb_dX7_firstCross_14.2.2.2.2.1
theorem dX7_firstCross_21 : decode cX7_firstCross 21 = .ok (.iload_n 2, 1) := op_28 nb_dX7_firstCross_14.2.2.2.2.2.1
theorem dX7_firstCross_22 : decode cX7_firstCross 22 = .ok (.iload_n 3, 1) := op_29 nb_dX7_firstCross_14.2.2.2.2.2.2.1
set_option maxRecDepth 100000 in
theorem dX7_firstCross_23 : decode cX7_firstCross 23 = .ok (.invokevirtual 27, 3) := (op_182 nb_dX7_firstCross_14.2.2.2.2.2.2.2.1).trans rfl
set_option maxRecDepth 100000 in
theorem dX7_firstCross_26 : decode cX7_firstCross 26 = .ok (.ifCond .eq 10, 3) := (op_153 nb_dX7_firstCross_14.2.2.2.2.2.2.2.2.1).trans rfl
set_option maxRecDepth 100000 in
theorem dX7_firstCross_29 : decode cX7_firstCross 29 = .ok (.bipush 10, 2) := (op_16 nb_dX7_firstCross_14.2.2.2.2.2.2.2.2.2.1).trans rfl
theorem dX7_firstCross_31 : decode cX7_firstCross 31 = .ok (.iload_n 2, 1) := op_28 nb_dX7_firstCross_14.2.2.2.2.2.2.2.2.2.2.1
theorem dX7_firstCross_32 : decode cX7_firstCross 32 = .ok (.imul, 1) := op_104 nb_dX7_firstCross_14.2.2.2.2.2.2.2.2.2.2.2.1
theorem nb_dX7_firstCross_33 : bls_w cX7_firstCross [(33, [29]), (34, [96]), (35, [172]), (36, [132, 3, 2]), (39, [167, 255, 230]), (42, [132, 2, 1]), (45, [167, 255, 213]), (48, [2]), (49, [172])] := bls_of (by decide +kernel)
theorem dX7_firstCross_33 : decode cX7_firstCross 33 = .ok (.iload_n 3, 1) := op_29 nb_dX7_firstCross_33.1
theorem dX7_firstCross_34 : decode cX7_firstCross 34 = .ok (.iadd, 1) := op_96 nb_dX7_firstCross_33.2.1
theorem dX7_firstCross_35 : decode cX7_firstCross 35 = .ok (.ireturn, 1) := op_172 nb_dX7_firstCross_33.2.2.1
set_option maxRecDepth 100000 in
theorem dX7_firstCross_36 : decode cX7_firstCross 36 = .ok (.iinc 3 2, 3) := (op_132 nb_dX7_firstCross_33.2.2.2.1).trans rfl
set_option maxRecDepth 100000 in
theorem dX7_firstCross_39 : decode cX7_firstCross 39 = .ok (.goto (-26), 3) := (op_167 nb_dX7_firstCross_33.2.2.2.2.1).trans rfl
set_option maxRecDepth 100000 in
theorem dX7_firstCross_42 : decode cX7_firstCross 42 = .ok (.iinc 2 1, 3) := (op_132 nb_dX7_firstCross_33.2.2.2.2.2.1).trans rfl
set_option maxRecDepth 100000 in
theorem dX7_firstCross_45 : decode cX7_firstCross 45 = .ok (.goto (-43), 3) := (op_167 nb_dX7_firstCross_33.2.2.2.2.2.2.1).trans rfl
theorem dX7_firstCross_48 : decode cX7_firstCross 48 = .ok (.iconst (-1), 1) := op_2 nb_dX7_firstCross_33.2.2.2.2.2.2.2.1
theorem dX7_firstCross_49 : decode cX7_firstCross 49 = .ok (.ireturn, 1) := op_172 nb_dX7_firstCross_33.2.2.2.2.2.2.2.2.1
def fX7_firstCross_13 (N : Nat) (k_2 : Int32 → Int32 → List Int32 → Option (Int32)) : Nat → Int32 → Int32 → Int32 → List Int32 → Option (Int32)
  | 0 => fun _ _ _ _ => none
  | n + 1 => fun x1 x2 x3 v_at =>
    if (x1 - (1 : Int32)) ≤ x3 then
    (mm_nm (x2 + (1 : Int32)) (fun (y_4 : Int32) =>
    k_2 x1 y_4 v_at))
    else (mm_bd1 (fX7_crossing N x2 x3 v_at) (fun (r_5 : Bool) =>
    if r_5 = false then
    (mm_nm (x3 + (2 : Int32)) (fun (y_8 : Int32) =>
    fX7_firstCross_13 N k_2 n x1 x2 y_8 v_at))
    else (some ((((10 : Int32) * x2) + x3)))))

set_option maxHeartbeats 4000000 in
set_option maxRecDepth 100000 in
theorem tX7_firstCross_13 {p : Program} {l : Launch} {e : Env} {s : State} {m : MethodId} {args : Array Value} {below : List Frame} {meth : Method} {c : Code} {D : va_G} {cI cL cS cH : ClassId} {A : Nat → Prop} {d : Nat} {a : Nat → Nat} (hd : 3 ≤ d) (C0 : mm_Cx p s m args meth c RX7 cX7_firstCross 4 (some .int) D (mm_T cI cL cS cH) A) (hA : ∀ q, s.heap.size ≤ q → A q) {v_list : List Int32} {v_found : List Int32} {r : Int32} (N : Nat) {k_2 : Int32 → Int32 → List Int32 → Option (Int32)} (hk_2 : ∀ (x1 : Int32) (x2 : Int32) (v_at : List Int32) (H : Heap) (locs : List Loc) (ls : Array Slot), k_2 x1 x2 v_at = some r → va_P D mm_cl (wd_X7 cI cL cS cH a v_list v_found v_at) H → va_D A (wd_X7 cI cL cS cH a v_list v_found v_at) → va_S A s.heap H locs → lv_has ls 4 [(0, .ref (a 0)), (1, .int x1), (2, .int x2)] → W p l e (mm_rr d) s m args below meth c H locs 0 0 (mm_Z below D A (wd_X7 cI cL cS cH a v_list v_found v_at) (some (.int r)) args s) (F0 m 2 ls [])) : ∀ (n : Nat), ∀ (x1 : Int32) (x2 : Int32) (x3 : Int32) (v_at : List Int32) (H : Heap) (locs : List Loc) (ls : Array Slot), fX7_firstCross_13 N k_2 n x1 x2 x3 v_at = some r → va_P D mm_cl (wd_X7 cI cL cS cH a v_list v_found v_at) H → va_D A (wd_X7 cI cL cS cH a v_list v_found v_at) → va_S A s.heap H locs → lv_has ls 4 [(0, .ref (a 0)), (1, .int x1), (2, .int x2), (3, .int x3)] → W p l e (mm_rr d) s m args below meth c H locs 0 0 (mm_Z below D A (wd_X7 cI cL cS cH a v_list v_found v_at) (some (.int r)) args s) (F0 m 13 ls []) := by
  obtain ⟨hx, hb, hml, hown, hts, hr, hlocks, hK, hSt⟩ := id C0
  intro n
  induction n with
  | zero =>
    intro x1 x2 x3 v_at H locs ls hf
    cases (show none = some _ from hf)
  | succ n ih =>
    intro x1 x2 x3 v_at H locs ls hf hP hD hS hl
    unfold fX7_firstCross_13 at hf
    refine lv_iload_n hx hb dX7_firstCross_13 rfl (lv_at hl 3 rfl) ?_
    refine lv_iload_n hx hb dX7_firstCross_14 rfl (lv_at hl 1 rfl) ?_
    refine lv_iconst (v := 1) hx hb dX7_firstCross_15 (by decide) ?_
    refine lv_isub hx hb dX7_firstCross_16 ?_
    refine lv_icmp_ge (tgt := 42) hx hb dX7_firstCross_17 (by decide) (fun c_3 => ?_) (fun c_3 => ?_)
    · have hf := mm_ip hf c_3
      obtain ⟨y_4, ey_4⟩ : ∃ z : Int32, z = x2 + (1 : Int32) := ⟨_, rfl⟩
      have hf := mm_nms hf ey_4
      refine lv_iinc (v := y_4) (lv' := [(2, .int y_4), (0, .ref (a 0)), (1, .int x1), (3, .int x3)]) hx hb dX7_firstCross_42 hl (k := 2) rfl (by rw [ey_4]; rfl) (by decide) rfl (fun ls hl => ?_)
      refine lv_goto (tgt := 2) hx hb dX7_firstCross_45 (by decide) ?_
      exact hk_2 _ _ _ H locs ls hf hP hD hS (lv_sub hl [1, 2, 0] rfl)
    · have hf := mm_in hf c_3
      refine lv_aload_n hx hb dX7_firstCross_20 rfl (lv_at hl 0 rfl) ?_
      refine lv_iload_n hx hb dX7_firstCross_21 rfl (lv_at hl 2 rfl) ?_
      refine lv_iload_n hx hb dX7_firstCross_22 rfl (lv_at hl 3 rfl) ?_
      obtain ⟨r_5, hc_6, hf⟩ := mm_bd1s hf
      refine mm_callVF (q0 := 0) (ci := 7) (rest := []) C0 lk_X7_27 (ctX7_crossing (a := a) (d := d - 1) (by omega) hc_6) (by omega) rfl hl.1 rfl (mm_cat rfl) dX7_firstCross_23 hP hD hA hS rfl rfl (fun H locs hP hD hS => ?_)
      refine W.eq (g2 := F0 m 26 ls [.int (mm_b r_5)]) rfl ?_
      refine lv_if_eq (tgt := 36) hx hb dX7_firstCross_26 (by decide) (fun c_7 => ?_) (fun c_7 => ?_)
      · have hf := mm_ip hf (mm_b0 c_7)
        obtain ⟨y_8, ey_8⟩ : ∃ z : Int32, z = x3 + (2 : Int32) := ⟨_, rfl⟩
        have hf := mm_nms hf ey_8
        refine lv_iinc (v := y_8) (lv' := [(3, .int y_8), (0, .ref (a 0)), (1, .int x1), (2, .int x2)]) hx hb dX7_firstCross_36 hl (k := 3) rfl (by rw [ey_8]; rfl) (by decide) rfl (fun ls hl => ?_)
        refine lv_goto (tgt := 13) hx hb dX7_firstCross_39 (by decide) ?_
        exact ih _ _ _ _ H locs ls hf hP hD hS (lv_sub hl [1, 2, 3, 0] rfl)
      · have hf := mm_in hf (mm_b1 c_7)
        refine lv_bipush (v := 10) hx hb dX7_firstCross_29 (by decide) ?_
        refine lv_iload_n hx hb dX7_firstCross_31 rfl (lv_at hl 2 rfl) ?_
        refine lv_imul hx hb dX7_firstCross_32 ?_
        refine lv_iload_n hx hb dX7_firstCross_33 rfl (lv_at hl 3 rfl) ?_
        refine lv_iadd hx hb dX7_firstCross_34 ?_
        obtain rfl := mm_inj1 hf
        exact mm_iret C0 hP hD hS dX7_firstCross_35

def fX7_firstCross_2 (N : Nat)  : Nat → Int32 → Int32 → List Int32 → Option (Int32)
  | 0 => fun _ _ _ => none
  | n + 1 => fun x1 x2 v_at =>
    if (x1 - (1 : Int32)) ≤ x2 then
    (some ((-1 : Int32)))
    else (mm_nm ((x2 + (2 : Int32))) (fun (y_2 : Int32) =>
    fX7_firstCross_13 N (fX7_firstCross_2 N n) N x1 x2 y_2 v_at))

set_option maxHeartbeats 4000000 in
set_option maxRecDepth 100000 in
theorem tX7_firstCross_2 {p : Program} {l : Launch} {e : Env} {s : State} {m : MethodId} {args : Array Value} {below : List Frame} {meth : Method} {c : Code} {D : va_G} {cI cL cS cH : ClassId} {A : Nat → Prop} {d : Nat} {a : Nat → Nat} (hd : 3 ≤ d) (C0 : mm_Cx p s m args meth c RX7 cX7_firstCross 4 (some .int) D (mm_T cI cL cS cH) A) (hA : ∀ q, s.heap.size ≤ q → A q) {v_list : List Int32} {v_found : List Int32} {r : Int32} (N : Nat)  : ∀ (n : Nat), ∀ (x1 : Int32) (x2 : Int32) (v_at : List Int32) (H : Heap) (locs : List Loc) (ls : Array Slot), fX7_firstCross_2 N n x1 x2 v_at = some r → va_P D mm_cl (wd_X7 cI cL cS cH a v_list v_found v_at) H → va_D A (wd_X7 cI cL cS cH a v_list v_found v_at) → va_S A s.heap H locs → lv_has ls 4 [(0, .ref (a 0)), (1, .int x1), (2, .int x2)] → W p l e (mm_rr d) s m args below meth c H locs 0 0 (mm_Z below D A (wd_X7 cI cL cS cH a v_list v_found v_at) (some (.int r)) args s) (F0 m 2 ls []) := by
  obtain ⟨hx, hb, hml, hown, hts, hr, hlocks, hK, hSt⟩ := id C0
  intro n
  induction n with
  | zero =>
    intro x1 x2 v_at H locs ls hf
    cases (show none = some _ from hf)
  | succ n ih =>
    intro x1 x2 v_at H locs ls hf hP hD hS hl
    unfold fX7_firstCross_2 at hf
    refine lv_iload_n hx hb dX7_firstCross_2 rfl (lv_at hl 2 rfl) ?_
    refine lv_iload_n hx hb dX7_firstCross_3 rfl (lv_at hl 1 rfl) ?_
    refine lv_iconst (v := 1) hx hb dX7_firstCross_4 (by decide) ?_
    refine lv_isub hx hb dX7_firstCross_5 ?_
    refine lv_icmp_ge (tgt := 48) hx hb dX7_firstCross_6 (by decide) (fun c_1 => ?_) (fun c_1 => ?_)
    · have hf := mm_ip hf c_1
      refine lv_iconst (v := -1) hx hb dX7_firstCross_48 (by decide) ?_
      obtain rfl := mm_inj1 hf
      exact mm_iret C0 hP hD hS dX7_firstCross_49
    · have hf := mm_in hf c_1
      refine lv_iload_n hx hb dX7_firstCross_9 rfl (lv_at hl 2 rfl) ?_
      refine lv_iconst (v := 2) hx hb dX7_firstCross_10 (by decide) ?_
      refine lv_iadd hx hb dX7_firstCross_11 ?_
      refine lv_topi (fun y_2 ey_2 => ?_)
      have hf := mm_nms hf ey_2
      refine lv_istore_n (lv' := [(3, .int y_2), (0, .ref (a 0)), (1, .int x1), (2, .int x2)]) hx hb dX7_firstCross_12 rfl hl (by decide) rfl (fun ls hl => ?_)
      exact tX7_firstCross_13 hd C0 hA N ih N _ _ _ _ H locs ls hf hP hD hS (lv_sub hl [1, 2, 3, 0] rfl)

def fX7_firstCross (N : Nat) (x1 : Int32) (v_at : List Int32) : Option (Int32) :=
    fX7_firstCross_2 N N x1 (0 : Int32) v_at

set_option maxHeartbeats 4000000 in
set_option maxRecDepth 100000 in
theorem ctX7_firstCross {l : Launch} {D : va_G} {cI cL cS cH : ClassId} {a : Nat → Nat} {x1 : Int32} {v_list : List Int32} {v_found : List Int32} {v_at : List Int32} {r : Int32} {N d : Nat} (hd : 3 ≤ d) (hf : fX7_firstCross N x1 v_at = some r) : mm_Ct l yX7_firstCross cX7_firstCross 4 (some .int) d D (mm_T cI cL cS cH) [.ref (a 0), .int x1] (wd_X7 cI cL cS cH a v_list v_found v_at) (wd_X7 cI cL cS cH a v_list v_found v_at) (some (.int r)) := by
  refine mm_of (by decide) (Nat.le_of_ble_eq_true rfl) ?_
  intro p e s m args below meth c A H locs ls C0 hP hD hA hS hl
  have C0 : mm_Cx p s m args meth c RX7 cX7_firstCross 4 (some .int) D (mm_T cI cL cS cH) A := C0
  obtain ⟨hx, hb, hml, hown, hts, hr, hlocks, hK, hSt⟩ := id C0
  have hl : lv_has ls 4 [(0, .ref (a 0)), (1, .int x1)] := hl
  unfold fX7_firstCross at hf
  refine lv_iconst (v := 0) hx hb dX7_firstCross_0 (by decide) ?_
  refine lv_istore_n (lv' := [(2, .int (0 : Int32)), (0, .ref (a 0)), (1, .int x1)]) hx hb dX7_firstCross_1 rfl hl (by decide) rfl (fun ls hl => ?_)
  exact tX7_firstCross_2 hd C0 hA N  N _ _ _ H locs ls hf hP hD hS (lv_sub hl [1, 2, 0] rfl)

theorem nb_dX7_bits_0 : bls_w cX7_bits [(0, [3]), (1, [61]), (2, [3]), (3, [62]), (4, [29]), (5, [27]), (6, [4]), (7, [100]), (8, [162, 0, 55]), (11, [29]), (12, [5]), (13, [112])] := bls_of (by decide +kernel)
theorem dX7_bits_0 : decode cX7_bits 0 = .ok (.iconst 0, 1) := op_3 nb_dX7_bits_0.1
theorem dX7_bits_1 : decode cX7_bits 1 = .ok (.istore_n 2, 1) := op_61 nb_dX7_bits_0.2.1
theorem dX7_bits_2 : decode cX7_bits 2 = .ok (.iconst 0, 1) := op_3 nb_dX7_bits_0.2.2.1
theorem dX7_bits_3 : decode cX7_bits 3 = .ok (.istore_n 3, 1) := op_62 nb_dX7_bits_0.2.2.2.1
theorem dX7_bits_4 : decode cX7_bits 4 = .ok (.iload_n 3, 1) := op_29 nb_dX7_bits_0.2.2.2.2.1
theorem dX7_bits_5 : decode cX7_bits 5 = .ok (.iload_n 1, 1) := op_27 nb_dX7_bits_0.2.2.2.2.2.1
theorem dX7_bits_6 : decode cX7_bits 6 = .ok (.iconst 1, 1) := op_4 nb_dX7_bits_0.2.2.2.2.2.2.1
theorem dX7_bits_7 : decode cX7_bits 7 = .ok (.isub, 1) := op_100 nb_dX7_bits_0.2.2.2.2.2.2.2.1
set_option maxRecDepth 100000 in
theorem dX7_bits_8 : decode cX7_bits 8 = .ok (.if_icmp .ge 55, 3) := (op_162 nb_dX7_bits_0.2.2.2.2.2.2.2.2.1).trans rfl
theorem dX7_bits_11 : decode cX7_bits 11 = .ok (.iload_n 3, 1) := op_29 nb_dX7_bits_0.2.2.2.2.2.2.2.2.2.1
theorem dX7_bits_12 : decode cX7_bits 12 = .ok (.iconst 2, 1) := op_5 nb_dX7_bits_0.2.2.2.2.2.2.2.2.2.2.1
theorem dX7_bits_13 : decode cX7_bits 13 = .ok (.irem, 1) := op_112 nb_dX7_bits_0.2.2.2.2.2.2.2.2.2.2.2.1
theorem nb_dX7_bits_14 : bls_w cX7_bits [(14, [154, 0, 7]), (17, [4]), (18, [167, 0, 4]), (21, [3]), (22, [54, 4]), (24, [42]), (25, [180, 0, 18]), (28, [29]), (29, [46]), (30, [42]), (31, [180, 0, 18]), (34, [29])] := bls_of (by decide +kernel)
set_option maxRecDepth 100000 in
theorem dX7_bits_14 : decode cX7_bits 14 = .ok (.ifCond .ne 7, 3) := (op_154 nb_dX7_bits_14.1).trans rfl
theorem dX7_bits_17 : decode cX7_bits 17 = .ok (.iconst 1, 1) := op_4 nb_dX7_bits_14.2.1
set_option maxRecDepth 100000 in
theorem dX7_bits_18 : decode cX7_bits 18 = .ok (.goto 4, 3) := (op_167 nb_dX7_bits_14.2.2.1).trans rfl
theorem dX7_bits_21 : decode cX7_bits 21 = .ok (.iconst 0, 1) := op_3 nb_dX7_bits_14.2.2.2.1
set_option maxRecDepth 100000 in
theorem dX7_bits_22 : decode cX7_bits 22 = .ok (.istore 4, 2) := (op_54 nb_dX7_bits_14.2.2.2.2.1).trans rfl
theorem dX7_bits_24 : decode cX7_bits 24 = .ok (.aload_n 0, 1) := op_42 nb_dX7_bits_14.2.2.2.2.2.1
set_option maxRecDepth 100000 in
theorem dX7_bits_25 : decode cX7_bits 25 = .ok (.getfield 18, 3) := (op_180 nb_dX7_bits_14.2.2.2.2.2.2.1).trans rfl
theorem dX7_bits_28 : decode cX7_bits 28 = .ok (.iload_n 3, 1) := op_29 nb_dX7_bits_14.2.2.2.2.2.2.2.1
theorem dX7_bits_29 : decode cX7_bits 29 = .ok (.iaload, 1) := op_46 nb_dX7_bits_14.2.2.2.2.2.2.2.2.1
theorem dX7_bits_30 : decode cX7_bits 30 = .ok (.aload_n 0, 1) := op_42 nb_dX7_bits_14.2.2.2.2.2.2.2.2.2.1
set_option maxRecDepth 100000 in
theorem dX7_bits_31 : decode cX7_bits 31 = .ok (.getfield 18, 3) := (op_180 nb_dX7_bits_14.2.2.2.2.2.2.2.2.2.2.1).trans rfl
theorem dX7_bits_34 : decode cX7_bits 34 = .ok (.iload_n 3, 1) := op_29 nb_dX7_bits_14.2.2.2.2.2.2.2.2.2.2.2.1
theorem nb_dX7_bits_35 : bls_w cX7_bits [(35, [4]), (36, [96]), (37, [46]), (38, [162, 0, 7]), (41, [4]), (42, [167, 0, 4]), (45, [3]), (46, [21, 4]), (48, [160, 0, 9]), (51, [28]), (52, [4]), (53, [29])] := bls_of (by decide +kernel)
theorem dX7_bits_35 : decode cX7_bits 35 = .ok (.iconst 1, 1) := op_4 nb_dX7_bits_35.1
theorem dX7_bits_36 : decode cX7_bits 36 = .ok (.iadd, 1) := op_96 nb_dX7_bits_35.2.1
theorem dX7_bits_37 : decode cX7_bits 37 = .ok (.iaload, 1) := op_46 nb_dX7_bits_35.2.2.1
set_option maxRecDepth 100000 in
theorem dX7_bits_38 : decode cX7_bits 38 = .ok (.if_icmp .ge 7, 3) := (op_162 nb_dX7_bits_35.2.2.2.1).trans rfl
theorem dX7_bits_41 : decode cX7_bits 41 = .ok (.iconst 1, 1) := op_4 nb_dX7_bits_35.2.2.2.2.1
set_option maxRecDepth 100000 in
theorem dX7_bits_42 : decode cX7_bits 42 = .ok (.goto 4, 3) := (op_167 nb_dX7_bits_35.2.2.2.2.2.1).trans rfl
theorem dX7_bits_45 : decode cX7_bits 45 = .ok (.iconst 0, 1) := op_3 nb_dX7_bits_35.2.2.2.2.2.2.1
set_option maxRecDepth 100000 in
theorem dX7_bits_46 : decode cX7_bits 46 = .ok (.iload 4, 2) := (op_21 nb_dX7_bits_35.2.2.2.2.2.2.2.1).trans rfl
set_option maxRecDepth 100000 in
theorem dX7_bits_48 : decode cX7_bits 48 = .ok (.if_icmp .ne 9, 3) := (op_160 nb_dX7_bits_35.2.2.2.2.2.2.2.2.1).trans rfl
theorem dX7_bits_51 : decode cX7_bits 51 = .ok (.iload_n 2, 1) := op_28 nb_dX7_bits_35.2.2.2.2.2.2.2.2.2.1
theorem dX7_bits_52 : decode cX7_bits 52 = .ok (.iconst 1, 1) := op_4 nb_dX7_bits_35.2.2.2.2.2.2.2.2.2.2.1
theorem dX7_bits_53 : decode cX7_bits 53 = .ok (.iload_n 3, 1) := op_29 nb_dX7_bits_35.2.2.2.2.2.2.2.2.2.2.2.1
theorem nb_dX7_bits_54 : bls_w cX7_bits [(54, [120]), (55, [128]), (56, [61]), (57, [132, 3, 1]), (60, [167, 255, 200]), (63, [28]), (64, [172])] := bls_of (by decide +kernel)
theorem dX7_bits_54 : decode cX7_bits 54 = .ok (.ishl, 1) := op_120 nb_dX7_bits_54.1
theorem dX7_bits_55 : decode cX7_bits 55 = .ok (.ior, 1) := op_128 nb_dX7_bits_54.2.1
theorem dX7_bits_56 : decode cX7_bits 56 = .ok (.istore_n 2, 1) := op_61 nb_dX7_bits_54.2.2.1
set_option maxRecDepth 100000 in
theorem dX7_bits_57 : decode cX7_bits 57 = .ok (.iinc 3 1, 3) := (op_132 nb_dX7_bits_54.2.2.2.1).trans rfl
set_option maxRecDepth 100000 in
theorem dX7_bits_60 : decode cX7_bits 60 = .ok (.goto (-56), 3) := (op_167 nb_dX7_bits_54.2.2.2.2.1).trans rfl
theorem dX7_bits_63 : decode cX7_bits 63 = .ok (.iload_n 2, 1) := op_28 nb_dX7_bits_54.2.2.2.2.2.1
theorem dX7_bits_64 : decode cX7_bits 64 = .ok (.ireturn, 1) := op_172 nb_dX7_bits_54.2.2.2.2.2.2.1
def fX7_bits_57 (N : Nat) (k_4 : Int32 → Int32 → Int32 → List Int32 → Option (Int32)) (x1 : Int32) (x2 : Int32) (x3 : Int32) (v_at : List Int32) : Option (Int32) :=
    mm_nm (x3 + (1 : Int32)) (fun (y_9 : Int32) =>
    k_4 x1 x2 y_9 v_at)

set_option maxHeartbeats 4000000 in
set_option maxRecDepth 100000 in
theorem tX7_bits_57 {p : Program} {l : Launch} {e : Env} {s : State} {m : MethodId} {args : Array Value} {below : List Frame} {meth : Method} {c : Code} {D : va_G} {cI cL cS cH : ClassId} {A : Nat → Prop} {d : Nat} {a : Nat → Nat} (hd : 1 ≤ d) (C0 : mm_Cx p s m args meth c RX7 cX7_bits 5 (some .int) D (mm_T cI cL cS cH) A) (hA : ∀ q, s.heap.size ≤ q → A q) {v_list : List Int32} {v_found : List Int32} {r : Int32} (N : Nat) {k_4 : Int32 → Int32 → Int32 → List Int32 → Option (Int32)} (hk_4 : ∀ (x1 : Int32) (x2 : Int32) (x3 : Int32) (v_at : List Int32) (H : Heap) (locs : List Loc) (ls : Array Slot), k_4 x1 x2 x3 v_at = some r → va_P D mm_cl (wd_X7 cI cL cS cH a v_list v_found v_at) H → va_D A (wd_X7 cI cL cS cH a v_list v_found v_at) → va_S A s.heap H locs → lv_has ls 5 [(0, .ref (a 0)), (1, .int x1), (2, .int x2), (3, .int x3)] → W p l e (mm_rr d) s m args below meth c H locs 0 0 (mm_Z below D A (wd_X7 cI cL cS cH a v_list v_found v_at) (some (.int r)) args s) (F0 m 4 ls [])) : ∀ (x1 : Int32) (x2 : Int32) (x3 : Int32) (v_at : List Int32) (H : Heap) (locs : List Loc) (ls : Array Slot), fX7_bits_57 N k_4 x1 x2 x3 v_at = some r → va_P D mm_cl (wd_X7 cI cL cS cH a v_list v_found v_at) H → va_D A (wd_X7 cI cL cS cH a v_list v_found v_at) → va_S A s.heap H locs → lv_has ls 5 [(0, .ref (a 0)), (1, .int x1), (2, .int x2), (3, .int x3)] → W p l e (mm_rr d) s m args below meth c H locs 0 0 (mm_Z below D A (wd_X7 cI cL cS cH a v_list v_found v_at) (some (.int r)) args s) (F0 m 57 ls []) := by
  obtain ⟨hx, hb, hml, hown, hts, hr, hlocks, hK, hSt⟩ := id C0
  intro x1 x2 x3 v_at H locs ls hf hP hD hS hl
  unfold fX7_bits_57 at hf
  obtain ⟨y_9, ey_9⟩ : ∃ z : Int32, z = x3 + (1 : Int32) := ⟨_, rfl⟩
  have hf := mm_nms hf ey_9
  refine lv_iinc (v := y_9) (lv' := [(3, .int y_9), (0, .ref (a 0)), (1, .int x1), (2, .int x2)]) hx hb dX7_bits_57 hl (k := 3) rfl (by rw [ey_9]; rfl) (by decide) rfl (fun ls hl => ?_)
  refine lv_goto (tgt := 4) hx hb dX7_bits_60 (by decide) ?_
  exact hk_4 _ _ _ _ H locs ls hf hP hD hS (lv_sub hl [1, 2, 3, 0] rfl)

def fX7_bits_46 (N : Nat) (k_4 : Int32 → Int32 → Int32 → List Int32 → Option (Int32)) (x1 : Int32) (x2 : Int32) (x3 : Int32) (x4 : Int32) (s0 : Int32) (v_at : List Int32) : Option (Int32) :=
    if s0 = x4 then
    (mm_nm ((x2 ||| ((1 : Int32) <<< (x3 &&& 31)))) (fun (y_8 : Int32) =>
    fX7_bits_57 N k_4 x1 y_8 x3 v_at))
    else (fX7_bits_57 N k_4 x1 x2 x3 v_at)

set_option maxHeartbeats 4000000 in
set_option maxRecDepth 100000 in
theorem tX7_bits_46 {p : Program} {l : Launch} {e : Env} {s : State} {m : MethodId} {args : Array Value} {below : List Frame} {meth : Method} {c : Code} {D : va_G} {cI cL cS cH : ClassId} {A : Nat → Prop} {d : Nat} {a : Nat → Nat} (hd : 1 ≤ d) (C0 : mm_Cx p s m args meth c RX7 cX7_bits 5 (some .int) D (mm_T cI cL cS cH) A) (hA : ∀ q, s.heap.size ≤ q → A q) {v_list : List Int32} {v_found : List Int32} {r : Int32} (N : Nat) {k_4 : Int32 → Int32 → Int32 → List Int32 → Option (Int32)} (hk_4 : ∀ (x1 : Int32) (x2 : Int32) (x3 : Int32) (v_at : List Int32) (H : Heap) (locs : List Loc) (ls : Array Slot), k_4 x1 x2 x3 v_at = some r → va_P D mm_cl (wd_X7 cI cL cS cH a v_list v_found v_at) H → va_D A (wd_X7 cI cL cS cH a v_list v_found v_at) → va_S A s.heap H locs → lv_has ls 5 [(0, .ref (a 0)), (1, .int x1), (2, .int x2), (3, .int x3)] → W p l e (mm_rr d) s m args below meth c H locs 0 0 (mm_Z below D A (wd_X7 cI cL cS cH a v_list v_found v_at) (some (.int r)) args s) (F0 m 4 ls [])) : ∀ (x1 : Int32) (x2 : Int32) (x3 : Int32) (x4 : Int32) (s0 : Int32) (v_at : List Int32) (H : Heap) (locs : List Loc) (ls : Array Slot), fX7_bits_46 N k_4 x1 x2 x3 x4 s0 v_at = some r → va_P D mm_cl (wd_X7 cI cL cS cH a v_list v_found v_at) H → va_D A (wd_X7 cI cL cS cH a v_list v_found v_at) → va_S A s.heap H locs → lv_has ls 5 [(0, .ref (a 0)), (1, .int x1), (2, .int x2), (3, .int x3), (4, .int x4)] → W p l e (mm_rr d) s m args below meth c H locs 0 0 (mm_Z below D A (wd_X7 cI cL cS cH a v_list v_found v_at) (some (.int r)) args s) (F0 m 46 ls [.int s0]) := by
  obtain ⟨hx, hb, hml, hown, hts, hr, hlocks, hK, hSt⟩ := id C0
  intro x1 x2 x3 x4 s0 v_at H locs ls hf hP hD hS hl
  unfold fX7_bits_46 at hf
  refine lv_iload hx hb dX7_bits_46 (lv_at hl 4 rfl) ?_
  refine lv_icmp_ne (tgt := 57) hx hb dX7_bits_48 (by decide) (fun c_7 => ?_) (fun c_7 => ?_)
  · have hf := mm_in hf c_7
    exact tX7_bits_57 hd C0 hA N hk_4 _ _ _ _ H locs ls hf hP hD hS (lv_sub hl [0, 1, 2, 3] rfl)
  · have hf := mm_ip hf c_7
    refine lv_iload_n hx hb dX7_bits_51 rfl (lv_at hl 2 rfl) ?_
    refine lv_iconst (v := 1) hx hb dX7_bits_52 (by decide) ?_
    refine lv_iload_n hx hb dX7_bits_53 rfl (lv_at hl 3 rfl) ?_
    refine lv_ishl hx hb dX7_bits_54 ?_
    refine lv_ior hx hb dX7_bits_55 ?_
    refine lv_topi (fun y_8 ey_8 => ?_)
    have hf := mm_nms hf ey_8
    refine lv_istore_n (lv' := [(2, .int y_8), (0, .ref (a 0)), (1, .int x1), (3, .int x3), (4, .int x4)]) hx hb dX7_bits_56 rfl hl (by decide) rfl (fun ls hl => ?_)
    exact tX7_bits_57 hd C0 hA N hk_4 _ _ _ _ H locs ls hf hP hD hS (lv_sub hl [1, 2, 0, 3] rfl)

def fX7_bits_22 (N : Nat) (k_4 : Int32 → Int32 → Int32 → List Int32 → Option (Int32)) (x1 : Int32) (x2 : Int32) (x3 : Int32) (s0 : Int32) (v_at : List Int32) : Option (Int32) :=
    mm_ck (mm_inb x3 v_at.length) (mm_ck (mm_inb (x3 + (1 : Int32)) v_at.length) (if (mm_ig v_at (x3 + (1 : Int32))) ≤ (mm_ig v_at x3) then
    (fX7_bits_46 N k_4 x1 x2 x3 s0 (0 : Int32) v_at)
    else (fX7_bits_46 N k_4 x1 x2 x3 s0 (1 : Int32) v_at)))

set_option maxHeartbeats 4000000 in
set_option maxRecDepth 100000 in
theorem tX7_bits_22 {p : Program} {l : Launch} {e : Env} {s : State} {m : MethodId} {args : Array Value} {below : List Frame} {meth : Method} {c : Code} {D : va_G} {cI cL cS cH : ClassId} {A : Nat → Prop} {d : Nat} {a : Nat → Nat} (hd : 1 ≤ d) (C0 : mm_Cx p s m args meth c RX7 cX7_bits 5 (some .int) D (mm_T cI cL cS cH) A) (hA : ∀ q, s.heap.size ≤ q → A q) {v_list : List Int32} {v_found : List Int32} {r : Int32} (N : Nat) {k_4 : Int32 → Int32 → Int32 → List Int32 → Option (Int32)} (hk_4 : ∀ (x1 : Int32) (x2 : Int32) (x3 : Int32) (v_at : List Int32) (H : Heap) (locs : List Loc) (ls : Array Slot), k_4 x1 x2 x3 v_at = some r → va_P D mm_cl (wd_X7 cI cL cS cH a v_list v_found v_at) H → va_D A (wd_X7 cI cL cS cH a v_list v_found v_at) → va_S A s.heap H locs → lv_has ls 5 [(0, .ref (a 0)), (1, .int x1), (2, .int x2), (3, .int x3)] → W p l e (mm_rr d) s m args below meth c H locs 0 0 (mm_Z below D A (wd_X7 cI cL cS cH a v_list v_found v_at) (some (.int r)) args s) (F0 m 4 ls [])) : ∀ (x1 : Int32) (x2 : Int32) (x3 : Int32) (s0 : Int32) (v_at : List Int32) (H : Heap) (locs : List Loc) (ls : Array Slot), fX7_bits_22 N k_4 x1 x2 x3 s0 v_at = some r → va_P D mm_cl (wd_X7 cI cL cS cH a v_list v_found v_at) H → va_D A (wd_X7 cI cL cS cH a v_list v_found v_at) → va_S A s.heap H locs → lv_has ls 5 [(0, .ref (a 0)), (1, .int x1), (2, .int x2), (3, .int x3)] → W p l e (mm_rr d) s m args below meth c H locs 0 0 (mm_Z below D A (wd_X7 cI cL cS cH a v_list v_found v_at) (some (.int r)) args s) (F0 m 22 ls [.int s0]) := by
  obtain ⟨hx, hb, hml, hown, hts, hr, hlocks, hK, hSt⟩ := id C0
  intro x1 x2 x3 s0 v_at H locs ls hf hP hD hS hl
  unfold fX7_bits_22 at hf
  refine lv_istore (lv' := [(4, .int s0), (0, .ref (a 0)), (1, .int x1), (2, .int x2), (3, .int x3)]) hx hb dX7_bits_22 hl (by decide) rfl (fun ls hl => ?_)
  refine lv_aload_n hx hb dX7_bits_24 rfl (lv_at hl 1 rfl) ?_
  refine mm_get C0 hP iw_X7 0 rfl rfl 2 (by decide) fl_X7_18 rfl dX7_bits_25 ?_
  refine lv_iload_n hx hb dX7_bits_28 rfl (lv_at hl 4 rfl) ?_
  obtain ⟨h_4, hf⟩ := mm_cks hf
  refine mm_iald C0 hP 3 rfl h_4 dX7_bits_29 ?_
  refine lv_aload_n hx hb dX7_bits_30 rfl (lv_at hl 1 rfl) ?_
  refine mm_get C0 hP iw_X7 0 rfl rfl 2 (by decide) fl_X7_18 rfl dX7_bits_31 ?_
  refine lv_iload_n hx hb dX7_bits_34 rfl (lv_at hl 4 rfl) ?_
  refine lv_iconst (v := 1) hx hb dX7_bits_35 (by decide) ?_
  refine lv_iadd hx hb dX7_bits_36 ?_
  obtain ⟨h_5, hf⟩ := mm_cks hf
  refine mm_iald C0 hP 3 rfl h_5 dX7_bits_37 ?_
  refine lv_icmp_ge (tgt := 45) hx hb dX7_bits_38 (by decide) (fun c_6 => ?_) (fun c_6 => ?_)
  · have hf := mm_ip hf c_6
    refine lv_iconst (v := 0) hx hb dX7_bits_45 (by decide) ?_
    exact tX7_bits_46 hd C0 hA N hk_4 _ _ _ _ _ _ H locs ls hf hP hD hS (lv_sub hl [1, 2, 3, 4, 0] rfl)
  · have hf := mm_in hf c_6
    refine lv_iconst (v := 1) hx hb dX7_bits_41 (by decide) ?_
    refine lv_goto (tgt := 46) hx hb dX7_bits_42 (by decide) ?_
    exact tX7_bits_46 hd C0 hA N hk_4 _ _ _ _ _ _ H locs ls hf hP hD hS (lv_sub hl [1, 2, 3, 4, 0] rfl)

def fX7_bits_4 (N : Nat)  : Nat → Int32 → Int32 → Int32 → List Int32 → Option (Int32)
  | 0 => fun _ _ _ _ => none
  | n + 1 => fun x1 x2 x3 v_at =>
    if (x1 - (1 : Int32)) ≤ x3 then
    (some (x2))
    else (mm_ck (mm_nz (2 : Int32)) (if (mm_rem x3 (2 : Int32)) = 0 then
    (fX7_bits_22 N (fX7_bits_4 N n) x1 x2 x3 (1 : Int32) v_at)
    else (fX7_bits_22 N (fX7_bits_4 N n) x1 x2 x3 (0 : Int32) v_at)))

set_option maxHeartbeats 4000000 in
set_option maxRecDepth 100000 in
theorem tX7_bits_4 {p : Program} {l : Launch} {e : Env} {s : State} {m : MethodId} {args : Array Value} {below : List Frame} {meth : Method} {c : Code} {D : va_G} {cI cL cS cH : ClassId} {A : Nat → Prop} {d : Nat} {a : Nat → Nat} (hd : 1 ≤ d) (C0 : mm_Cx p s m args meth c RX7 cX7_bits 5 (some .int) D (mm_T cI cL cS cH) A) (hA : ∀ q, s.heap.size ≤ q → A q) {v_list : List Int32} {v_found : List Int32} {r : Int32} (N : Nat)  : ∀ (n : Nat), ∀ (x1 : Int32) (x2 : Int32) (x3 : Int32) (v_at : List Int32) (H : Heap) (locs : List Loc) (ls : Array Slot), fX7_bits_4 N n x1 x2 x3 v_at = some r → va_P D mm_cl (wd_X7 cI cL cS cH a v_list v_found v_at) H → va_D A (wd_X7 cI cL cS cH a v_list v_found v_at) → va_S A s.heap H locs → lv_has ls 5 [(0, .ref (a 0)), (1, .int x1), (2, .int x2), (3, .int x3)] → W p l e (mm_rr d) s m args below meth c H locs 0 0 (mm_Z below D A (wd_X7 cI cL cS cH a v_list v_found v_at) (some (.int r)) args s) (F0 m 4 ls []) := by
  obtain ⟨hx, hb, hml, hown, hts, hr, hlocks, hK, hSt⟩ := id C0
  intro n
  induction n with
  | zero =>
    intro x1 x2 x3 v_at H locs ls hf
    cases (show none = some _ from hf)
  | succ n ih =>
    intro x1 x2 x3 v_at H locs ls hf hP hD hS hl
    unfold fX7_bits_4 at hf
    refine lv_iload_n hx hb dX7_bits_4 rfl (lv_at hl 3 rfl) ?_
    refine lv_iload_n hx hb dX7_bits_5 rfl (lv_at hl 1 rfl) ?_
    refine lv_iconst (v := 1) hx hb dX7_bits_6 (by decide) ?_
    refine lv_isub hx hb dX7_bits_7 ?_
    refine lv_icmp_ge (tgt := 63) hx hb dX7_bits_8 (by decide) (fun c_1 => ?_) (fun c_1 => ?_)
    · have hf := mm_ip hf c_1
      refine lv_iload_n hx hb dX7_bits_63 rfl (lv_at hl 2 rfl) ?_
      obtain rfl := mm_inj1 hf
      exact mm_iret C0 hP hD hS dX7_bits_64
    · have hf := mm_in hf c_1
      refine lv_iload_n hx hb dX7_bits_11 rfl (lv_at hl 3 rfl) ?_
      refine lv_iconst (v := 2) hx hb dX7_bits_12 (by decide) ?_
      obtain ⟨h_2, hf⟩ := mm_cks hf
      refine lv_irem hx hb dX7_bits_13 (mm_nzs h_2) ?_
      refine lv_if_ne (tgt := 21) hx hb dX7_bits_14 (by decide) (fun c_3 => ?_) (fun c_3 => ?_)
      · have hf := mm_in hf c_3
        refine lv_iconst (v := 0) hx hb dX7_bits_21 (by decide) ?_
        exact tX7_bits_22 hd C0 hA N ih _ _ _ _ _ H locs ls hf hP hD hS (lv_sub hl [0, 1, 2, 3] rfl)
      · have hf := mm_ip hf c_3
        refine lv_iconst (v := 1) hx hb dX7_bits_17 (by decide) ?_
        refine lv_goto (tgt := 22) hx hb dX7_bits_18 (by decide) ?_
        exact tX7_bits_22 hd C0 hA N ih _ _ _ _ _ H locs ls hf hP hD hS (lv_sub hl [0, 1, 2, 3] rfl)

def fX7_bits (N : Nat) (x1 : Int32) (v_at : List Int32) : Option (Int32) :=
    fX7_bits_4 N N x1 (0 : Int32) (0 : Int32) v_at

set_option maxHeartbeats 4000000 in
set_option maxRecDepth 100000 in
theorem ctX7_bits {l : Launch} {D : va_G} {cI cL cS cH : ClassId} {a : Nat → Nat} {x1 : Int32} {v_list : List Int32} {v_found : List Int32} {v_at : List Int32} {r : Int32} {N d : Nat} (hd : 1 ≤ d) (hf : fX7_bits N x1 v_at = some r) : mm_Ct l yX7_bits cX7_bits 5 (some .int) d D (mm_T cI cL cS cH) [.ref (a 0), .int x1] (wd_X7 cI cL cS cH a v_list v_found v_at) (wd_X7 cI cL cS cH a v_list v_found v_at) (some (.int r)) := by
  refine mm_of (by decide) (Nat.le_of_ble_eq_true rfl) ?_
  intro p e s m args below meth c A H locs ls C0 hP hD hA hS hl
  have C0 : mm_Cx p s m args meth c RX7 cX7_bits 5 (some .int) D (mm_T cI cL cS cH) A := C0
  obtain ⟨hx, hb, hml, hown, hts, hr, hlocks, hK, hSt⟩ := id C0
  have hl : lv_has ls 5 [(0, .ref (a 0)), (1, .int x1)] := hl
  unfold fX7_bits at hf
  refine lv_iconst (v := 0) hx hb dX7_bits_0 (by decide) ?_
  refine lv_istore_n (lv' := [(2, .int (0 : Int32)), (0, .ref (a 0)), (1, .int x1)]) hx hb dX7_bits_1 rfl hl (by decide) rfl (fun ls hl => ?_)
  refine lv_iconst (v := 0) hx hb dX7_bits_2 (by decide) ?_
  refine lv_istore_n (lv' := [(3, .int (0 : Int32)), (2, .int (0 : Int32)), (0, .ref (a 0)), (1, .int x1)]) hx hb dX7_bits_3 rfl hl (by decide) rfl (fun ls hl => ?_)
  exact tX7_bits_4 hd C0 hA N  N _ _ _ _ H locs ls hf hP hD hS (lv_sub hl [2, 3, 1, 0] rfl)

theorem nb_dX7_isLaid_0 : bls_w cX7_isLaid [(0, [28]), (1, [155, 0, 34]), (4, [28]), (5, [27]), (6, [4]), (7, [100]), (8, [162, 0, 27]), (11, [42]), (12, [180, 0, 18]), (15, [28]), (16, [46]), (17, [155, 0, 18])] := bls_of (by decide +kernel)
theorem dX7_isLaid_0 : decode cX7_isLaid 0 = .ok (.iload_n 2, 1) := op_28 nb_dX7_isLaid_0.1
set_option maxRecDepth 100000 in
theorem dX7_isLaid_1 : decode cX7_isLaid 1 = .ok (.ifCond .lt 34, 3) := (op_155 nb_dX7_isLaid_0.2.1).trans rfl
theorem dX7_isLaid_4 : decode cX7_isLaid 4 = .ok (.iload_n 2, 1) := op_28 nb_dX7_isLaid_0.2.2.1
theorem dX7_isLaid_5 : decode cX7_isLaid 5 = .ok (.iload_n 1, 1) := op_27 nb_dX7_isLaid_0.2.2.2.1
theorem dX7_isLaid_6 : decode cX7_isLaid 6 = .ok (.iconst 1, 1) := op_4 nb_dX7_isLaid_0.2.2.2.2.1
theorem dX7_isLaid_7 : decode cX7_isLaid 7 = .ok (.isub, 1) := op_100 nb_dX7_isLaid_0.2.2.2.2.2.1
set_option maxRecDepth 100000 in
theorem dX7_isLaid_8 : decode cX7_isLaid 8 = .ok (.if_icmp .ge 27, 3) := (op_162 nb_dX7_isLaid_0.2.2.2.2.2.2.1).trans rfl
theorem dX7_isLaid_11 : decode cX7_isLaid 11 = .ok (.aload_n 0, 1) := op_42 nb_dX7_isLaid_0.2.2.2.2.2.2.2.1
set_option maxRecDepth 100000 in
theorem dX7_isLaid_12 : decode cX7_isLaid 12 = .ok (.getfield 18, 3) := (op_180 nb_dX7_isLaid_0.2.2.2.2.2.2.2.2.1).trans rfl
theorem dX7_isLaid_15 : decode cX7_isLaid 15 = .ok (.iload_n 2, 1) := op_28 nb_dX7_isLaid_0.2.2.2.2.2.2.2.2.2.1
theorem dX7_isLaid_16 : decode cX7_isLaid 16 = .ok (.iaload, 1) := op_46 nb_dX7_isLaid_0.2.2.2.2.2.2.2.2.2.2.1
set_option maxRecDepth 100000 in
theorem dX7_isLaid_17 : decode cX7_isLaid 17 = .ok (.ifCond .lt 18, 3) := (op_155 nb_dX7_isLaid_0.2.2.2.2.2.2.2.2.2.2.2.1).trans rfl
theorem nb_dX7_isLaid_20 : bls_w cX7_isLaid [(20, [42]), (21, [180, 0, 18]), (24, [28]), (25, [4]), (26, [96]), (27, [46]), (28, [155, 0, 7]), (31, [4]), (32, [167, 0, 4]), (35, [3]), (36, [172])] := bls_of (by decide +kernel)
theorem dX7_isLaid_20 : decode cX7_isLaid 20 = .ok (.aload_n 0, 1) := op_42 nb_dX7_isLaid_20.1
set_option maxRecDepth 100000 in
theorem dX7_isLaid_21 : decode cX7_isLaid 21 = .ok (.getfield 18, 3) := (op_180 nb_dX7_isLaid_20.2.1).trans rfl
theorem dX7_isLaid_24 : decode cX7_isLaid 24 = .ok (.iload_n 2, 1) := op_28 nb_dX7_isLaid_20.2.2.1
theorem dX7_isLaid_25 : decode cX7_isLaid 25 = .ok (.iconst 1, 1) := op_4 nb_dX7_isLaid_20.2.2.2.1
theorem dX7_isLaid_26 : decode cX7_isLaid 26 = .ok (.iadd, 1) := op_96 nb_dX7_isLaid_20.2.2.2.2.1
theorem dX7_isLaid_27 : decode cX7_isLaid 27 = .ok (.iaload, 1) := op_46 nb_dX7_isLaid_20.2.2.2.2.2.1
set_option maxRecDepth 100000 in
theorem dX7_isLaid_28 : decode cX7_isLaid 28 = .ok (.ifCond .lt 7, 3) := (op_155 nb_dX7_isLaid_20.2.2.2.2.2.2.1).trans rfl
theorem dX7_isLaid_31 : decode cX7_isLaid 31 = .ok (.iconst 1, 1) := op_4 nb_dX7_isLaid_20.2.2.2.2.2.2.2.1
set_option maxRecDepth 100000 in
theorem dX7_isLaid_32 : decode cX7_isLaid 32 = .ok (.goto 4, 3) := (op_167 nb_dX7_isLaid_20.2.2.2.2.2.2.2.2.1).trans rfl
theorem dX7_isLaid_35 : decode cX7_isLaid 35 = .ok (.iconst 0, 1) := op_3 nb_dX7_isLaid_20.2.2.2.2.2.2.2.2.2.1
theorem dX7_isLaid_36 : decode cX7_isLaid 36 = .ok (.ireturn, 1) := op_172 nb_dX7_isLaid_20.2.2.2.2.2.2.2.2.2.2.1
def fX7_isLaid (N : Nat) (x1 : Int32) (x2 : Int32) (v_at : List Int32) : Option (Bool) :=
    if x2 < 0 then
    (some (false))
    else (if (x1 - (1 : Int32)) ≤ x2 then
    (some (false))
    else (mm_ck (mm_inb x2 v_at.length) (if (mm_ig v_at x2) < 0 then
    (some (false))
    else (mm_ck (mm_inb (x2 + (1 : Int32)) v_at.length) (if (mm_ig v_at (x2 + (1 : Int32))) < 0 then
    (some (false))
    else (some (true)))))))

set_option maxHeartbeats 4000000 in
set_option maxRecDepth 100000 in
theorem ctX7_isLaid {l : Launch} {D : va_G} {cI cL cS cH : ClassId} {a : Nat → Nat} {x1 : Int32} {x2 : Int32} {v_list : List Int32} {v_found : List Int32} {v_at : List Int32} {r : Bool} {N d : Nat} (hd : 1 ≤ d) (hf : fX7_isLaid N x1 x2 v_at = some r) : mm_Ct l yX7_isLaid cX7_isLaid 3 (some .boolean) d D (mm_T cI cL cS cH) [.ref (a 0), .int x1, .int x2] (wd_X7 cI cL cS cH a v_list v_found v_at) (wd_X7 cI cL cS cH a v_list v_found v_at) (some (.int (mm_b r))) := by
  refine mm_of (by decide) (Nat.le_of_ble_eq_true rfl) ?_
  intro p e s m args below meth c A H locs ls C0 hP hD hA hS hl
  have C0 : mm_Cx p s m args meth c RX7 cX7_isLaid 3 (some .boolean) D (mm_T cI cL cS cH) A := C0
  obtain ⟨hx, hb, hml, hown, hts, hr, hlocks, hK, hSt⟩ := id C0
  have hl : lv_has ls 3 [(0, .ref (a 0)), (1, .int x1), (2, .int x2)] := hl
  unfold fX7_isLaid at hf
  refine lv_iload_n hx hb dX7_isLaid_0 rfl (lv_at hl 2 rfl) ?_
  refine lv_if_lt (tgt := 35) hx hb dX7_isLaid_1 (by decide) (fun c_1 => ?_) (fun c_1 => ?_)
  · have hf := mm_ip hf c_1
    refine lv_iconst (v := 0) hx hb dX7_isLaid_35 (by decide) ?_
    obtain rfl := mm_inj1 hf
    exact mm_zret (v := false) C0 hP hD hS dX7_isLaid_36 (by decide)
  · have hf := mm_in hf c_1
    refine lv_iload_n hx hb dX7_isLaid_4 rfl (lv_at hl 2 rfl) ?_
    refine lv_iload_n hx hb dX7_isLaid_5 rfl (lv_at hl 1 rfl) ?_
    refine lv_iconst (v := 1) hx hb dX7_isLaid_6 (by decide) ?_
    refine lv_isub hx hb dX7_isLaid_7 ?_
    refine lv_icmp_ge (tgt := 35) hx hb dX7_isLaid_8 (by decide) (fun c_2 => ?_) (fun c_2 => ?_)
    · have hf := mm_ip hf c_2
      refine lv_iconst (v := 0) hx hb dX7_isLaid_35 (by decide) ?_
      obtain rfl := mm_inj1 hf
      exact mm_zret (v := false) C0 hP hD hS dX7_isLaid_36 (by decide)
    · have hf := mm_in hf c_2
      refine lv_aload_n hx hb dX7_isLaid_11 rfl (lv_at hl 0 rfl) ?_
      refine mm_get C0 hP iw_X7 0 rfl rfl 2 (by decide) fl_X7_18 rfl dX7_isLaid_12 ?_
      refine lv_iload_n hx hb dX7_isLaid_15 rfl (lv_at hl 2 rfl) ?_
      obtain ⟨h_3, hf⟩ := mm_cks hf
      refine mm_iald C0 hP 3 rfl h_3 dX7_isLaid_16 ?_
      refine lv_if_lt (tgt := 35) hx hb dX7_isLaid_17 (by decide) (fun c_4 => ?_) (fun c_4 => ?_)
      · have hf := mm_ip hf c_4
        refine lv_iconst (v := 0) hx hb dX7_isLaid_35 (by decide) ?_
        obtain rfl := mm_inj1 hf
        exact mm_zret (v := false) C0 hP hD hS dX7_isLaid_36 (by decide)
      · have hf := mm_in hf c_4
        refine lv_aload_n hx hb dX7_isLaid_20 rfl (lv_at hl 0 rfl) ?_
        refine mm_get C0 hP iw_X7 0 rfl rfl 2 (by decide) fl_X7_18 rfl dX7_isLaid_21 ?_
        refine lv_iload_n hx hb dX7_isLaid_24 rfl (lv_at hl 2 rfl) ?_
        refine lv_iconst (v := 1) hx hb dX7_isLaid_25 (by decide) ?_
        refine lv_iadd hx hb dX7_isLaid_26 ?_
        obtain ⟨h_5, hf⟩ := mm_cks hf
        refine mm_iald C0 hP 3 rfl h_5 dX7_isLaid_27 ?_
        refine lv_if_lt (tgt := 35) hx hb dX7_isLaid_28 (by decide) (fun c_6 => ?_) (fun c_6 => ?_)
        · have hf := mm_ip hf c_6
          refine lv_iconst (v := 0) hx hb dX7_isLaid_35 (by decide) ?_
          obtain rfl := mm_inj1 hf
          exact mm_zret (v := false) C0 hP hD hS dX7_isLaid_36 (by decide)
        · have hf := mm_in hf c_6
          refine lv_iconst (v := 1) hx hb dX7_isLaid_31 (by decide) ?_
          refine lv_goto (tgt := 36) hx hb dX7_isLaid_32 (by decide) ?_
          obtain rfl := mm_inj1 hf
          exact mm_zret (v := true) C0 hP hD hS dX7_isLaid_36 (by decide)
end
section
/-! parts: X7_crossesLaid, X7_enter, X7_grow, X7_howMany, X7_orderAt, X7_isBent, X7_howManyBent, X7_firstBent, X7_howManyTopped -/
theorem nb_dX7_crossesLaid_0 : bls_w cX7_crossesLaid [(0, [42]), (1, [27]), (2, [28]), (3, [182, 0, 71]), (6, [154, 0, 5]), (9, [3]), (10, [172]), (11, [28]), (12, [5]), (13, [112]), (14, [62]), (15, [29])] := bls_of (by decide +kernel)
theorem dX7_crossesLaid_0 : decode cX7_crossesLaid 0 = .ok (.aload_n 0, 1) := op_42 nb_dX7_crossesLaid_0.1
theorem dX7_crossesLaid_1 : decode cX7_crossesLaid 1 = .ok (.iload_n 1, 1) := op_27 nb_dX7_crossesLaid_0.2.1
theorem dX7_crossesLaid_2 : decode cX7_crossesLaid 2 = .ok (.iload_n 2, 1) := op_28 nb_dX7_crossesLaid_0.2.2.1
set_option maxRecDepth 100000 in
theorem dX7_crossesLaid_3 : decode cX7_crossesLaid 3 = .ok (.invokevirtual 71, 3) := (op_182 nb_dX7_crossesLaid_0.2.2.2.1).trans rfl
set_option maxRecDepth 100000 in
theorem dX7_crossesLaid_6 : decode cX7_crossesLaid 6 = .ok (.ifCond .ne 5, 3) := (op_154 nb_dX7_crossesLaid_0.2.2.2.2.1).trans rfl
theorem dX7_crossesLaid_9 : decode cX7_crossesLaid 9 = .ok (.iconst 0, 1) := op_3 nb_dX7_crossesLaid_0.2.2.2.2.2.1
theorem dX7_crossesLaid_10 : decode cX7_crossesLaid 10 = .ok (.ireturn, 1) := op_172 nb_dX7_crossesLaid_0.2.2.2.2.2.2.1
theorem dX7_crossesLaid_11 : decode cX7_crossesLaid 11 = .ok (.iload_n 2, 1) := op_28 nb_dX7_crossesLaid_0.2.2.2.2.2.2.2.1
theorem dX7_crossesLaid_12 : decode cX7_crossesLaid 12 = .ok (.iconst 2, 1) := op_5 nb_dX7_crossesLaid_0.2.2.2.2.2.2.2.2.1
theorem dX7_crossesLaid_13 : decode cX7_crossesLaid 13 = .ok (.irem, 1) := op_112 nb_dX7_crossesLaid_0.2.2.2.2.2.2.2.2.2.1
theorem dX7_crossesLaid_14 : decode cX7_crossesLaid 14 = .ok (.istore_n 3, 1) := op_62 nb_dX7_crossesLaid_0.2.2.2.2.2.2.2.2.2.2.1
theorem dX7_crossesLaid_15 : decode cX7_crossesLaid 15 = .ok (.iload_n 3, 1) := op_29 nb_dX7_crossesLaid_0.2.2.2.2.2.2.2.2.2.2.2.1
theorem nb_dX7_crossesLaid_16 : bls_w cX7_crossesLaid [(16, [27]), (17, [4]), (18, [100]), (19, [162, 0, 34]), (22, [29]), (23, [28]), (24, [159, 0, 23]), (27, [42]), (28, [27]), (29, [29]), (30, [182, 0, 71]), (33, [153, 0, 14])] := bls_of (by decide +kernel)
theorem dX7_crossesLaid_16 : decode cX7_crossesLaid 16 = .ok (.iload_n 1, 1) := op_27 nb_dX7_crossesLaid_16.1
theorem dX7_crossesLaid_17 : decode cX7_crossesLaid 17 = .ok (.iconst 1, 1) := op_4 nb_dX7_crossesLaid_16.2.1
theorem dX7_crossesLaid_18 : decode cX7_crossesLaid 18 = .ok (.isub, 1) := op_100 nb_dX7_crossesLaid_16.2.2.1
set_option maxRecDepth 100000 in
theorem dX7_crossesLaid_19 : decode cX7_crossesLaid 19 = .ok (.if_icmp .ge 34, 3) := (op_162 nb_dX7_crossesLaid_16.2.2.2.1).trans rfl
theorem dX7_crossesLaid_22 : decode cX7_crossesLaid 22 = .ok (.iload_n 3, 1) := op_29 nb_dX7_crossesLaid_16.2.2.2.2.1
theorem dX7_crossesLaid_23 : decode cX7_crossesLaid 23 = .ok (.iload_n 2, 1) := op_28 nb_dX7_crossesLaid_16.2.2.2.2.2.1
set_option maxRecDepth 100000 in
theorem dX7_crossesLaid_24 : decode cX7_crossesLaid 24 = .ok (.if_icmp .eq 23, 3) := (op_159 nb_dX7_crossesLaid_16.2.2.2.2.2.2.1).trans rfl
theorem dX7_crossesLaid_27 : decode cX7_crossesLaid 27 = .ok (.aload_n 0, 1) := op_42 nb_dX7_crossesLaid_16.2.2.2.2.2.2.2.1
theorem dX7_crossesLaid_28 : decode cX7_crossesLaid 28 = .ok (.iload_n 1, 1) := op_27 nb_dX7_crossesLaid_16.2.2.2.2.2.2.2.2.1
theorem dX7_crossesLaid_29 : decode cX7_crossesLaid 29 = .ok (.iload_n 3, 1) := op_29 nb_dX7_crossesLaid_16.2.2.2.2.2.2.2.2.2.1
set_option maxRecDepth 100000 in
theorem dX7_crossesLaid_30 : decode cX7_crossesLaid 30 = .ok (.invokevirtual 71, 3) := (op_182 nb_dX7_crossesLaid_16.2.2.2.2.2.2.2.2.2.2.1).trans rfl
set_option maxRecDepth 100000 in
theorem dX7_crossesLaid_33 : decode cX7_crossesLaid 33 = .ok (.ifCond .eq 14, 3) := (op_153 nb_dX7_crossesLaid_16.2.2.2.2.2.2.2.2.2.2.2.1).trans rfl
theorem nb_dX7_crossesLaid_36 : bls_w cX7_crossesLaid [(36, [42]), (37, [28]), (38, [29]), (39, [182, 0, 27]), (42, [153, 0, 5]), (45, [4]), (46, [172]), (47, [132, 3, 2]), (50, [167, 255, 221]), (53, [3]), (54, [172])] := bls_of (by decide +kernel)
theorem dX7_crossesLaid_36 : decode cX7_crossesLaid 36 = .ok (.aload_n 0, 1) := op_42 nb_dX7_crossesLaid_36.1
theorem dX7_crossesLaid_37 : decode cX7_crossesLaid 37 = .ok (.iload_n 2, 1) := op_28 nb_dX7_crossesLaid_36.2.1
theorem dX7_crossesLaid_38 : decode cX7_crossesLaid 38 = .ok (.iload_n 3, 1) := op_29 nb_dX7_crossesLaid_36.2.2.1
set_option maxRecDepth 100000 in
theorem dX7_crossesLaid_39 : decode cX7_crossesLaid 39 = .ok (.invokevirtual 27, 3) := (op_182 nb_dX7_crossesLaid_36.2.2.2.1).trans rfl
set_option maxRecDepth 100000 in
theorem dX7_crossesLaid_42 : decode cX7_crossesLaid 42 = .ok (.ifCond .eq 5, 3) := (op_153 nb_dX7_crossesLaid_36.2.2.2.2.1).trans rfl
theorem dX7_crossesLaid_45 : decode cX7_crossesLaid 45 = .ok (.iconst 1, 1) := op_4 nb_dX7_crossesLaid_36.2.2.2.2.2.1
theorem dX7_crossesLaid_46 : decode cX7_crossesLaid 46 = .ok (.ireturn, 1) := op_172 nb_dX7_crossesLaid_36.2.2.2.2.2.2.1
set_option maxRecDepth 100000 in
theorem dX7_crossesLaid_47 : decode cX7_crossesLaid 47 = .ok (.iinc 3 2, 3) := (op_132 nb_dX7_crossesLaid_36.2.2.2.2.2.2.2.1).trans rfl
set_option maxRecDepth 100000 in
theorem dX7_crossesLaid_50 : decode cX7_crossesLaid 50 = .ok (.goto (-35), 3) := (op_167 nb_dX7_crossesLaid_36.2.2.2.2.2.2.2.2.1).trans rfl
theorem dX7_crossesLaid_53 : decode cX7_crossesLaid 53 = .ok (.iconst 0, 1) := op_3 nb_dX7_crossesLaid_36.2.2.2.2.2.2.2.2.2.1
theorem dX7_crossesLaid_54 : decode cX7_crossesLaid 54 = .ok (.ireturn, 1) := op_172 nb_dX7_crossesLaid_36.2.2.2.2.2.2.2.2.2.2.1
def fX7_crossesLaid_47 (N : Nat) (k_15 : Int32 → Int32 → Int32 → List Int32 → Option (Bool)) (x1 : Int32) (x2 : Int32) (x3 : Int32) (v_at : List Int32) : Option (Bool) :=
    mm_nm (x3 + (2 : Int32)) (fun (y_14 : Int32) =>
    k_15 x1 x2 y_14 v_at)

set_option maxHeartbeats 4000000 in
set_option maxRecDepth 100000 in
theorem tX7_crossesLaid_47 {p : Program} {l : Launch} {e : Env} {s : State} {m : MethodId} {args : Array Value} {below : List Frame} {meth : Method} {c : Code} {D : va_G} {cI cL cS cH : ClassId} {A : Nat → Prop} {d : Nat} {a : Nat → Nat} (hd : 3 ≤ d) (C0 : mm_Cx p s m args meth c RX7 cX7_crossesLaid 4 (some .boolean) D (mm_T cI cL cS cH) A) (hA : ∀ q, s.heap.size ≤ q → A q) {v_list : List Int32} {v_found : List Int32} {r : Bool} (N : Nat) {k_15 : Int32 → Int32 → Int32 → List Int32 → Option (Bool)} (hk_15 : ∀ (x1 : Int32) (x2 : Int32) (x3 : Int32) (v_at : List Int32) (H : Heap) (locs : List Loc) (ls : Array Slot), k_15 x1 x2 x3 v_at = some r → va_P D mm_cl (wd_X7 cI cL cS cH a v_list v_found v_at) H → va_D A (wd_X7 cI cL cS cH a v_list v_found v_at) → va_S A s.heap H locs → lv_has ls 4 [(0, .ref (a 0)), (1, .int x1), (2, .int x2), (3, .int x3)] → W p l e (mm_rr d) s m args below meth c H locs 0 0 (mm_Z below D A (wd_X7 cI cL cS cH a v_list v_found v_at) (some (.int (mm_b r))) args s) (F0 m 15 ls [])) : ∀ (x1 : Int32) (x2 : Int32) (x3 : Int32) (v_at : List Int32) (H : Heap) (locs : List Loc) (ls : Array Slot), fX7_crossesLaid_47 N k_15 x1 x2 x3 v_at = some r → va_P D mm_cl (wd_X7 cI cL cS cH a v_list v_found v_at) H → va_D A (wd_X7 cI cL cS cH a v_list v_found v_at) → va_S A s.heap H locs → lv_has ls 4 [(0, .ref (a 0)), (1, .int x1), (2, .int x2), (3, .int x3)] → W p l e (mm_rr d) s m args below meth c H locs 0 0 (mm_Z below D A (wd_X7 cI cL cS cH a v_list v_found v_at) (some (.int (mm_b r))) args s) (F0 m 47 ls []) := by
  obtain ⟨hx, hb, hml, hown, hts, hr, hlocks, hK, hSt⟩ := id C0
  intro x1 x2 x3 v_at H locs ls hf hP hD hS hl
  unfold fX7_crossesLaid_47 at hf
  obtain ⟨y_14, ey_14⟩ : ∃ z : Int32, z = x3 + (2 : Int32) := ⟨_, rfl⟩
  have hf := mm_nms hf ey_14
  refine lv_iinc (v := y_14) (lv' := [(3, .int y_14), (0, .ref (a 0)), (1, .int x1), (2, .int x2)]) hx hb dX7_crossesLaid_47 hl (k := 3) rfl (by rw [ey_14]; rfl) (by decide) rfl (fun ls hl => ?_)
  refine lv_goto (tgt := 15) hx hb dX7_crossesLaid_50 (by decide) ?_
  exact hk_15 _ _ _ _ H locs ls hf hP hD hS (lv_sub hl [1, 2, 3, 0] rfl)

def fX7_crossesLaid_15 (N : Nat)  : Nat → Int32 → Int32 → Int32 → List Int32 → Option (Bool)
  | 0 => fun _ _ _ _ => none
  | n + 1 => fun x1 x2 x3 v_at =>
    if (x1 - (1 : Int32)) ≤ x3 then
    (some (false))
    else (if x3 = x2 then
    (fX7_crossesLaid_47 N (fX7_crossesLaid_15 N n) x1 x2 x3 v_at)
    else (mm_bd1 (fX7_isLaid N x1 x3 v_at) (fun (r_8 : Bool) =>
    if r_8 = false then
    (fX7_crossesLaid_47 N (fX7_crossesLaid_15 N n) x1 x2 x3 v_at)
    else (mm_bd1 (fX7_crossing N x2 x3 v_at) (fun (r_11 : Bool) =>
    if r_11 = false then
    (fX7_crossesLaid_47 N (fX7_crossesLaid_15 N n) x1 x2 x3 v_at)
    else (some (true)))))))

set_option maxHeartbeats 4000000 in
set_option maxRecDepth 100000 in
theorem tX7_crossesLaid_15 {p : Program} {l : Launch} {e : Env} {s : State} {m : MethodId} {args : Array Value} {below : List Frame} {meth : Method} {c : Code} {D : va_G} {cI cL cS cH : ClassId} {A : Nat → Prop} {d : Nat} {a : Nat → Nat} (hd : 3 ≤ d) (C0 : mm_Cx p s m args meth c RX7 cX7_crossesLaid 4 (some .boolean) D (mm_T cI cL cS cH) A) (hA : ∀ q, s.heap.size ≤ q → A q) {v_list : List Int32} {v_found : List Int32} {r : Bool} (N : Nat)  : ∀ (n : Nat), ∀ (x1 : Int32) (x2 : Int32) (x3 : Int32) (v_at : List Int32) (H : Heap) (locs : List Loc) (ls : Array Slot), fX7_crossesLaid_15 N n x1 x2 x3 v_at = some r → va_P D mm_cl (wd_X7 cI cL cS cH a v_list v_found v_at) H → va_D A (wd_X7 cI cL cS cH a v_list v_found v_at) → va_S A s.heap H locs → lv_has ls 4 [(0, .ref (a 0)), (1, .int x1), (2, .int x2), (3, .int x3)] → W p l e (mm_rr d) s m args below meth c H locs 0 0 (mm_Z below D A (wd_X7 cI cL cS cH a v_list v_found v_at) (some (.int (mm_b r))) args s) (F0 m 15 ls []) := by
  obtain ⟨hx, hb, hml, hown, hts, hr, hlocks, hK, hSt⟩ := id C0
  intro n
  induction n with
  | zero =>
    intro x1 x2 x3 v_at H locs ls hf
    cases (show none = some _ from hf)
  | succ n ih =>
    intro x1 x2 x3 v_at H locs ls hf hP hD hS hl
    unfold fX7_crossesLaid_15 at hf
    refine lv_iload_n hx hb dX7_crossesLaid_15 rfl (lv_at hl 3 rfl) ?_
    refine lv_iload_n hx hb dX7_crossesLaid_16 rfl (lv_at hl 1 rfl) ?_
    refine lv_iconst (v := 1) hx hb dX7_crossesLaid_17 (by decide) ?_
    refine lv_isub hx hb dX7_crossesLaid_18 ?_
    refine lv_icmp_ge (tgt := 53) hx hb dX7_crossesLaid_19 (by decide) (fun c_6 => ?_) (fun c_6 => ?_)
    · have hf := mm_ip hf c_6
      refine lv_iconst (v := 0) hx hb dX7_crossesLaid_53 (by decide) ?_
      obtain rfl := mm_inj1 hf
      exact mm_zret (v := false) C0 hP hD hS dX7_crossesLaid_54 (by decide)
    · have hf := mm_in hf c_6
      refine lv_iload_n hx hb dX7_crossesLaid_22 rfl (lv_at hl 3 rfl) ?_
      refine lv_iload_n hx hb dX7_crossesLaid_23 rfl (lv_at hl 2 rfl) ?_
      refine lv_icmp_eq (tgt := 47) hx hb dX7_crossesLaid_24 (by decide) (fun c_7 => ?_) (fun c_7 => ?_)
      · have hf := mm_ip hf c_7
        exact tX7_crossesLaid_47 hd C0 hA N ih _ _ _ _ H locs ls hf hP hD hS (lv_sub hl [0, 1, 2, 3] rfl)
      · have hf := mm_in hf c_7
        refine lv_aload_n hx hb dX7_crossesLaid_27 rfl (lv_at hl 0 rfl) ?_
        refine lv_iload_n hx hb dX7_crossesLaid_28 rfl (lv_at hl 1 rfl) ?_
        refine lv_iload_n hx hb dX7_crossesLaid_29 rfl (lv_at hl 3 rfl) ?_
        obtain ⟨r_8, hc_9, hf⟩ := mm_bd1s hf
        refine mm_callVF (q0 := 0) (ci := 7) (rest := []) C0 lk_X7_71 (ctX7_isLaid (a := a) (d := d - 1) (by omega) hc_9) (by omega) rfl hl.1 rfl (mm_cat rfl) dX7_crossesLaid_30 hP hD hA hS rfl rfl (fun H locs hP hD hS => ?_)
        refine W.eq (g2 := F0 m 33 ls [.int (mm_b r_8)]) rfl ?_
        refine lv_if_eq (tgt := 47) hx hb dX7_crossesLaid_33 (by decide) (fun c_10 => ?_) (fun c_10 => ?_)
        · have hf := mm_ip hf (mm_b0 c_10)
          exact tX7_crossesLaid_47 hd C0 hA N ih _ _ _ _ H locs ls hf hP hD hS (lv_sub hl [0, 1, 2, 3] rfl)
        · have hf := mm_in hf (mm_b1 c_10)
          refine lv_aload_n hx hb dX7_crossesLaid_36 rfl (lv_at hl 0 rfl) ?_
          refine lv_iload_n hx hb dX7_crossesLaid_37 rfl (lv_at hl 2 rfl) ?_
          refine lv_iload_n hx hb dX7_crossesLaid_38 rfl (lv_at hl 3 rfl) ?_
          obtain ⟨r_11, hc_12, hf⟩ := mm_bd1s hf
          refine mm_callVF (q0 := 0) (ci := 7) (rest := []) C0 lk_X7_27 (ctX7_crossing (a := a) (d := d - 1) (by omega) hc_12) (by omega) rfl hl.1 rfl (mm_cat rfl) dX7_crossesLaid_39 hP hD hA hS rfl rfl (fun H locs hP hD hS => ?_)
          refine W.eq (g2 := F0 m 42 ls [.int (mm_b r_11)]) rfl ?_
          refine lv_if_eq (tgt := 47) hx hb dX7_crossesLaid_42 (by decide) (fun c_13 => ?_) (fun c_13 => ?_)
          · have hf := mm_ip hf (mm_b0 c_13)
            exact tX7_crossesLaid_47 hd C0 hA N ih _ _ _ _ H locs ls hf hP hD hS (lv_sub hl [0, 1, 2, 3] rfl)
          · have hf := mm_in hf (mm_b1 c_13)
            refine lv_iconst (v := 1) hx hb dX7_crossesLaid_45 (by decide) ?_
            obtain rfl := mm_inj1 hf
            exact mm_zret (v := true) C0 hP hD hS dX7_crossesLaid_46 (by decide)

def fX7_crossesLaid (N : Nat) (x1 : Int32) (x2 : Int32) (v_at : List Int32) : Option (Bool) :=
    mm_bd1 (fX7_isLaid N x1 x2 v_at) (fun (r_1 : Bool) =>
    if r_1 = false then
    (some (false))
    else (mm_ck (mm_nz (2 : Int32)) (mm_nm ((mm_rem x2 (2 : Int32))) (fun (y_5 : Int32) =>
    fX7_crossesLaid_15 N N x1 x2 y_5 v_at))))

set_option maxHeartbeats 4000000 in
set_option maxRecDepth 100000 in
theorem ctX7_crossesLaid {l : Launch} {D : va_G} {cI cL cS cH : ClassId} {a : Nat → Nat} {x1 : Int32} {x2 : Int32} {v_list : List Int32} {v_found : List Int32} {v_at : List Int32} {r : Bool} {N d : Nat} (hd : 3 ≤ d) (hf : fX7_crossesLaid N x1 x2 v_at = some r) : mm_Ct l yX7_crossesLaid cX7_crossesLaid 4 (some .boolean) d D (mm_T cI cL cS cH) [.ref (a 0), .int x1, .int x2] (wd_X7 cI cL cS cH a v_list v_found v_at) (wd_X7 cI cL cS cH a v_list v_found v_at) (some (.int (mm_b r))) := by
  refine mm_of (by decide) (Nat.le_of_ble_eq_true rfl) ?_
  intro p e s m args below meth c A H locs ls C0 hP hD hA hS hl
  have C0 : mm_Cx p s m args meth c RX7 cX7_crossesLaid 4 (some .boolean) D (mm_T cI cL cS cH) A := C0
  obtain ⟨hx, hb, hml, hown, hts, hr, hlocks, hK, hSt⟩ := id C0
  have hl : lv_has ls 4 [(0, .ref (a 0)), (1, .int x1), (2, .int x2)] := hl
  unfold fX7_crossesLaid at hf
  refine lv_aload_n hx hb dX7_crossesLaid_0 rfl (lv_at hl 0 rfl) ?_
  refine lv_iload_n hx hb dX7_crossesLaid_1 rfl (lv_at hl 1 rfl) ?_
  refine lv_iload_n hx hb dX7_crossesLaid_2 rfl (lv_at hl 2 rfl) ?_
  obtain ⟨r_1, hc_2, hf⟩ := mm_bd1s hf
  refine mm_callVF (q0 := 0) (ci := 7) (rest := []) C0 lk_X7_71 (ctX7_isLaid (a := a) (d := d - 1) (by omega) hc_2) (by omega) rfl hl.1 rfl (mm_cat rfl) dX7_crossesLaid_3 hP hD hA hS rfl rfl (fun H locs hP hD hS => ?_)
  refine W.eq (g2 := F0 m 6 ls [.int (mm_b r_1)]) rfl ?_
  refine lv_if_ne (tgt := 11) hx hb dX7_crossesLaid_6 (by decide) (fun c_3 => ?_) (fun c_3 => ?_)
  · have hf := mm_in hf (mm_b1 c_3)
    refine lv_iload_n hx hb dX7_crossesLaid_11 rfl (lv_at hl 2 rfl) ?_
    refine lv_iconst (v := 2) hx hb dX7_crossesLaid_12 (by decide) ?_
    obtain ⟨h_4, hf⟩ := mm_cks hf
    refine lv_irem hx hb dX7_crossesLaid_13 (mm_nzs h_4) ?_
    refine lv_topi (fun y_5 ey_5 => ?_)
    have hf := mm_nms hf ey_5
    refine lv_istore_n (lv' := [(3, .int y_5), (0, .ref (a 0)), (1, .int x1), (2, .int x2)]) hx hb dX7_crossesLaid_14 rfl hl (by decide) rfl (fun ls hl => ?_)
    exact tX7_crossesLaid_15 hd C0 hA N  N _ _ _ _ H locs ls hf hP hD hS (lv_sub hl [1, 2, 3, 0] rfl)
  · have hf := mm_ip hf (mm_b0 c_3)
    refine lv_iconst (v := 0) hx hb dX7_crossesLaid_9 (by decide) ?_
    obtain rfl := mm_inj1 hf
    exact mm_zret (v := false) C0 hP hD hS dX7_crossesLaid_10 (by decide)

theorem nb_dX7_enter_0 : bls_w cX7_enter [(0, [178, 0, 51]), (3, [27]), (4, [46]), (5, [42]), (6, [180, 0, 15]), (9, [27]), (10, [46]), (11, [96]), (12, [62]), (13, [29]), (14, [178, 0, 51]), (17, [27])] := bls_of (by decide +kernel)
set_option maxRecDepth 100000 in
theorem dX7_enter_0 : decode cX7_enter 0 = .ok (.getstatic 51, 3) := (op_178 nb_dX7_enter_0.1).trans rfl
theorem dX7_enter_3 : decode cX7_enter 3 = .ok (.iload_n 1, 1) := op_27 nb_dX7_enter_0.2.1
theorem dX7_enter_4 : decode cX7_enter 4 = .ok (.iaload, 1) := op_46 nb_dX7_enter_0.2.2.1
theorem dX7_enter_5 : decode cX7_enter 5 = .ok (.aload_n 0, 1) := op_42 nb_dX7_enter_0.2.2.2.1
set_option maxRecDepth 100000 in
theorem dX7_enter_6 : decode cX7_enter 6 = .ok (.getfield 15, 3) := (op_180 nb_dX7_enter_0.2.2.2.2.1).trans rfl
theorem dX7_enter_9 : decode cX7_enter 9 = .ok (.iload_n 1, 1) := op_27 nb_dX7_enter_0.2.2.2.2.2.1
theorem dX7_enter_10 : decode cX7_enter 10 = .ok (.iaload, 1) := op_46 nb_dX7_enter_0.2.2.2.2.2.2.1
theorem dX7_enter_11 : decode cX7_enter 11 = .ok (.iadd, 1) := op_96 nb_dX7_enter_0.2.2.2.2.2.2.2.1
theorem dX7_enter_12 : decode cX7_enter 12 = .ok (.istore_n 3, 1) := op_62 nb_dX7_enter_0.2.2.2.2.2.2.2.2.1
theorem dX7_enter_13 : decode cX7_enter 13 = .ok (.iload_n 3, 1) := op_29 nb_dX7_enter_0.2.2.2.2.2.2.2.2.2.1
set_option maxRecDepth 100000 in
theorem dX7_enter_14 : decode cX7_enter 14 = .ok (.getstatic 51, 3) := (op_178 nb_dX7_enter_0.2.2.2.2.2.2.2.2.2.2.1).trans rfl
theorem dX7_enter_17 : decode cX7_enter 17 = .ok (.iload_n 1, 1) := op_27 nb_dX7_enter_0.2.2.2.2.2.2.2.2.2.2.2.1
theorem nb_dX7_enter_18 : bls_w cX7_enter [(18, [4]), (19, [96]), (20, [46]), (21, [162, 0, 20]), (24, [42]), (25, [180, 0, 11]), (28, [29]), (29, [28]), (30, [79]), (31, [42]), (32, [180, 0, 15]), (35, [27])] := bls_of (by decide +kernel)
theorem dX7_enter_18 : decode cX7_enter 18 = .ok (.iconst 1, 1) := op_4 nb_dX7_enter_18.1
theorem dX7_enter_19 : decode cX7_enter 19 = .ok (.iadd, 1) := op_96 nb_dX7_enter_18.2.1
theorem dX7_enter_20 : decode cX7_enter 20 = .ok (.iaload, 1) := op_46 nb_dX7_enter_18.2.2.1
set_option maxRecDepth 100000 in
theorem dX7_enter_21 : decode cX7_enter 21 = .ok (.if_icmp .ge 20, 3) := (op_162 nb_dX7_enter_18.2.2.2.1).trans rfl
theorem dX7_enter_24 : decode cX7_enter 24 = .ok (.aload_n 0, 1) := op_42 nb_dX7_enter_18.2.2.2.2.1
set_option maxRecDepth 100000 in
theorem dX7_enter_25 : decode cX7_enter 25 = .ok (.getfield 11, 3) := (op_180 nb_dX7_enter_18.2.2.2.2.2.1).trans rfl
theorem dX7_enter_28 : decode cX7_enter 28 = .ok (.iload_n 3, 1) := op_29 nb_dX7_enter_18.2.2.2.2.2.2.1
theorem dX7_enter_29 : decode cX7_enter 29 = .ok (.iload_n 2, 1) := op_28 nb_dX7_enter_18.2.2.2.2.2.2.2.1
theorem dX7_enter_30 : decode cX7_enter 30 = .ok (.iastore, 1) := op_79 nb_dX7_enter_18.2.2.2.2.2.2.2.2.1
theorem dX7_enter_31 : decode cX7_enter 31 = .ok (.aload_n 0, 1) := op_42 nb_dX7_enter_18.2.2.2.2.2.2.2.2.2.1
set_option maxRecDepth 100000 in
theorem dX7_enter_32 : decode cX7_enter 32 = .ok (.getfield 15, 3) := (op_180 nb_dX7_enter_18.2.2.2.2.2.2.2.2.2.2.1).trans rfl
theorem dX7_enter_35 : decode cX7_enter 35 = .ok (.iload_n 1, 1) := op_27 nb_dX7_enter_18.2.2.2.2.2.2.2.2.2.2.2.1
theorem nb_dX7_enter_36 : bls_w cX7_enter [(36, [92]), (37, [46]), (38, [4]), (39, [96]), (40, [79]), (41, [177])] := bls_of (by decide +kernel)
theorem dX7_enter_36 : decode cX7_enter 36 = .ok (.dup2, 1) := op_92 nb_dX7_enter_36.1
theorem dX7_enter_37 : decode cX7_enter 37 = .ok (.iaload, 1) := op_46 nb_dX7_enter_36.2.1
theorem dX7_enter_38 : decode cX7_enter 38 = .ok (.iconst 1, 1) := op_4 nb_dX7_enter_36.2.2.1
theorem dX7_enter_39 : decode cX7_enter 39 = .ok (.iadd, 1) := op_96 nb_dX7_enter_36.2.2.2.1
theorem dX7_enter_40 : decode cX7_enter 40 = .ok (.iastore, 1) := op_79 nb_dX7_enter_36.2.2.2.2.1
theorem dX7_enter_41 : decode cX7_enter 41 = .ok (.return_, 1) := op_177 nb_dX7_enter_36.2.2.2.2.2.1
def fX7_enter (N : Nat) (x1 : Int32) (x2 : Int32) (v_list : List Int32) (v_found : List Int32) : Option (List Int32 × List Int32) :=
    mm_ck (mm_inb x1 mm_START.length) (mm_ck (mm_inb x1 v_found.length) (mm_nm (((mm_ig mm_START x1) + (mm_ig v_found x1))) (fun (y_3 : Int32) =>
    mm_ck (mm_inb (x1 + (1 : Int32)) mm_START.length) (if (mm_ig mm_START (x1 + (1 : Int32))) ≤ y_3 then
    (some (v_list, v_found))
    else (mm_ck (mm_inb y_3 v_list.length) (mm_nm (mm_is v_list y_3 x2) (fun (l_7 : List Int32) =>
    mm_ck (mm_inb x1 v_found.length) (mm_nm (((mm_ig v_found x1) + (1 : Int32))) (fun (y_9 : Int32) =>
    mm_ck (mm_inb x1 v_found.length) (mm_nm (mm_is v_found x1 y_9) (fun (l_11 : List Int32) =>
    some (l_7, l_11))))))))))))

set_option maxHeartbeats 4000000 in
set_option maxRecDepth 100000 in
theorem ctX7_enter {l : Launch} {D : va_G} {cI cL cS cH : ClassId} {a : Nat → Nat} {x1 : Int32} {x2 : Int32} {v_list : List Int32} {v_found : List Int32} {v_at : List Int32} {w_list : List Int32} {w_found : List Int32} {N d : Nat} (hd : 1 ≤ d) (hf : fX7_enter N x1 x2 v_list v_found = some (w_list, w_found)) : mm_Ct l yX7_enter cX7_enter 4 none d D (mm_T cI cL cS cH) [.ref (a 0), .int x1, .int x2] (wd_X7 cI cL cS cH a v_list v_found v_at) (wd_X7 cI cL cS cH a w_list w_found v_at) none := by
  refine mm_of (by decide) (Nat.le_of_ble_eq_true rfl) ?_
  intro p e s m args below meth c A H locs ls C0 hP hD hA hS hl
  have C0 : mm_Cx p s m args meth c RX7 cX7_enter 4 none D (mm_T cI cL cS cH) A := C0
  obtain ⟨hx, hb, hml, hown, hts, hr, hlocks, hK, hSt⟩ := id C0
  obtain ⟨⟨t_START, hZ_START, hT_START⟩, ⟨t_ABOVE, hZ_ABOVE, hT_ABOVE⟩, ⟨t_OWN, hZ_OWN, hT_OWN⟩, hNest⟩ := hSt
  have hl : lv_has ls 4 [(0, .ref (a 0)), (1, .int x1), (2, .int x2)] := hl
  unfold fX7_enter at hf
  refine va_gets hx hb hZ_START hS hown (hts _ fl_X7_51) (fun _ h9 => h9) dX7_enter_0 ?_
  refine lv_iload_n hx hb dX7_enter_3 rfl (lv_at hl 1 rfl) ?_
  obtain ⟨h_1, hf⟩ := mm_cks hf
  refine va_ti (v := .int (mm_ig mm_START x1)) hx hb hT_START hS (mm_inbs h_1).1 rfl dX7_enter_4 ?_
  refine lv_aload_n hx hb dX7_enter_5 rfl (lv_at hl 0 rfl) ?_
  refine mm_get C0 hP iw_X7 0 rfl rfl 1 (by decide) fl_X7_15 rfl dX7_enter_6 ?_
  refine lv_iload_n hx hb dX7_enter_9 rfl (lv_at hl 1 rfl) ?_
  obtain ⟨h_2, hf⟩ := mm_cks hf
  refine mm_iald C0 hP 2 rfl h_2 dX7_enter_10 ?_
  refine lv_iadd hx hb dX7_enter_11 ?_
  refine lv_topi (fun y_3 ey_3 => ?_)
  have hf := mm_nms hf ey_3
  refine lv_istore_n (lv' := [(3, .int y_3), (0, .ref (a 0)), (1, .int x1), (2, .int x2)]) hx hb dX7_enter_12 rfl hl (by decide) rfl (fun ls hl => ?_)
  refine lv_iload_n hx hb dX7_enter_13 rfl (lv_at hl 0 rfl) ?_
  refine va_gets hx hb hZ_START hS hown (hts _ fl_X7_51) (fun _ h9 => h9) dX7_enter_14 ?_
  refine lv_iload_n hx hb dX7_enter_17 rfl (lv_at hl 2 rfl) ?_
  refine lv_iconst (v := 1) hx hb dX7_enter_18 (by decide) ?_
  refine lv_iadd hx hb dX7_enter_19 ?_
  obtain ⟨h_4, hf⟩ := mm_cks hf
  refine va_ti (v := .int (mm_ig mm_START (x1 + (1 : Int32)))) hx hb hT_START hS (mm_inbs h_4).1 rfl dX7_enter_20 ?_
  refine lv_icmp_ge (tgt := 41) hx hb dX7_enter_21 (by decide) (fun c_5 => ?_) (fun c_5 => ?_)
  · have hf := mm_ip hf c_5
    apply mm_sub2 hf
    exact mm_vret C0 hP hD hS dX7_enter_41
  · have hf := mm_in hf c_5
    refine lv_aload_n hx hb dX7_enter_24 rfl (lv_at hl 1 rfl) ?_
    refine mm_get C0 hP iw_X7 0 rfl rfl 0 (by decide) fl_X7_11 rfl dX7_enter_25 ?_
    refine lv_iload_n hx hb dX7_enter_28 rfl (lv_at hl 0 rfl) ?_
    refine lv_iload_n hx hb dX7_enter_29 rfl (lv_at hl 3 rfl) ?_
    obtain ⟨h_6, hf⟩ := mm_cks hf
    refine mm_iast C0 hP hD hS 1 rfl h_6 dX7_enter_30 (w2 := (wd_X7 cI cL cS cH a (mm_is v_list y_3 x2) v_found v_at)) rfl (fun H locs hP hD hS => ?_)
    generalize el_7 : (mm_is v_list y_3 x2) = l_7 at hP hD
    have hf := mm_nms hf el_7.symm
    refine lv_aload_n hx hb dX7_enter_31 rfl (lv_at hl 1 rfl) ?_
    refine mm_get C0 hP iw_X7 0 rfl rfl 1 (by decide) fl_X7_15 rfl dX7_enter_32 ?_
    refine lv_iload_n hx hb dX7_enter_35 rfl (lv_at hl 2 rfl) ?_
    refine lv_dup2_11 hx hb dX7_enter_36 rfl rfl ?_
    obtain ⟨h_8, hf⟩ := mm_cks hf
    refine mm_iald C0 hP 2 rfl h_8 dX7_enter_37 ?_
    refine lv_iconst (v := 1) hx hb dX7_enter_38 (by decide) ?_
    refine lv_iadd hx hb dX7_enter_39 ?_
    refine lv_topi (fun y_9 ey_9 => ?_)
    have hf := mm_nms hf ey_9
    obtain ⟨h_10, hf⟩ := mm_cks hf
    refine mm_iast C0 hP hD hS 2 rfl h_10 dX7_enter_40 (w2 := (wd_X7 cI cL cS cH a l_7 (mm_is v_found x1 y_9) v_at)) rfl (fun H locs hP hD hS => ?_)
    generalize el_11 : (mm_is v_found x1 y_9) = l_11 at hP hD
    have hf := mm_nms hf el_11.symm
    apply mm_sub2 hf
    exact mm_vret C0 hP hD hS dX7_enter_41

theorem nb_dX7_grow_0 : bls_w cX7_grow [(0, [28]), (1, [27]), (2, [160, 0, 10]), (5, [42]), (6, [27]), (7, [29]), (8, [182, 0, 64]), (11, [177]), (12, [3]), (13, [54, 4]), (15, [21, 4]), (17, [27])] := bls_of (by decide +kernel)
theorem dX7_grow_0 : decode cX7_grow 0 = .ok (.iload_n 2, 1) := op_28 nb_dX7_grow_0.1
theorem dX7_grow_1 : decode cX7_grow 1 = .ok (.iload_n 1, 1) := op_27 nb_dX7_grow_0.2.1
set_option maxRecDepth 100000 in
theorem dX7_grow_2 : decode cX7_grow 2 = .ok (.if_icmp .ne 10, 3) := (op_160 nb_dX7_grow_0.2.2.1).trans rfl
theorem dX7_grow_5 : decode cX7_grow 5 = .ok (.aload_n 0, 1) := op_42 nb_dX7_grow_0.2.2.2.1
theorem dX7_grow_6 : decode cX7_grow 6 = .ok (.iload_n 1, 1) := op_27 nb_dX7_grow_0.2.2.2.2.1
theorem dX7_grow_7 : decode cX7_grow 7 = .ok (.iload_n 3, 1) := op_29 nb_dX7_grow_0.2.2.2.2.2.1
set_option maxRecDepth 100000 in
theorem dX7_grow_8 : decode cX7_grow 8 = .ok (.invokevirtual 64, 3) := (op_182 nb_dX7_grow_0.2.2.2.2.2.2.1).trans rfl
theorem dX7_grow_11 : decode cX7_grow 11 = .ok (.return_, 1) := op_177 nb_dX7_grow_0.2.2.2.2.2.2.2.1
theorem dX7_grow_12 : decode cX7_grow 12 = .ok (.iconst 0, 1) := op_3 nb_dX7_grow_0.2.2.2.2.2.2.2.2.1
set_option maxRecDepth 100000 in
theorem dX7_grow_13 : decode cX7_grow 13 = .ok (.istore 4, 2) := (op_54 nb_dX7_grow_0.2.2.2.2.2.2.2.2.2.1).trans rfl
set_option maxRecDepth 100000 in
theorem dX7_grow_15 : decode cX7_grow 15 = .ok (.iload 4, 2) := (op_21 nb_dX7_grow_0.2.2.2.2.2.2.2.2.2.2.1).trans rfl
theorem dX7_grow_17 : decode cX7_grow 17 = .ok (.iload_n 1, 1) := op_27 nb_dX7_grow_0.2.2.2.2.2.2.2.2.2.2.2.1
theorem nb_dX7_grow_18 : bls_w cX7_grow [(18, [162, 0, 77]), (21, [42]), (22, [180, 0, 18]), (25, [21, 4]), (27, [46]), (28, [155, 0, 6]), (31, [167, 0, 58]), (34, [42]), (35, [180, 0, 18]), (38, [21, 4]), (40, [28]), (41, [79])] := bls_of (by decide +kernel)
set_option maxRecDepth 100000 in
theorem dX7_grow_18 : decode cX7_grow 18 = .ok (.if_icmp .ge 77, 3) := (op_162 nb_dX7_grow_18.1).trans rfl
theorem dX7_grow_21 : decode cX7_grow 21 = .ok (.aload_n 0, 1) := op_42 nb_dX7_grow_18.2.1
set_option maxRecDepth 100000 in
theorem dX7_grow_22 : decode cX7_grow 22 = .ok (.getfield 18, 3) := (op_180 nb_dX7_grow_18.2.2.1).trans rfl
set_option maxRecDepth 100000 in
theorem dX7_grow_25 : decode cX7_grow 25 = .ok (.iload 4, 2) := (op_21 nb_dX7_grow_18.2.2.2.1).trans rfl
theorem dX7_grow_27 : decode cX7_grow 27 = .ok (.iaload, 1) := op_46 nb_dX7_grow_18.2.2.2.2.1
set_option maxRecDepth 100000 in
theorem dX7_grow_28 : decode cX7_grow 28 = .ok (.ifCond .lt 6, 3) := (op_155 nb_dX7_grow_18.2.2.2.2.2.1).trans rfl
set_option maxRecDepth 100000 in
theorem dX7_grow_31 : decode cX7_grow 31 = .ok (.goto 58, 3) := (op_167 nb_dX7_grow_18.2.2.2.2.2.2.1).trans rfl
theorem dX7_grow_34 : decode cX7_grow 34 = .ok (.aload_n 0, 1) := op_42 nb_dX7_grow_18.2.2.2.2.2.2.2.1
set_option maxRecDepth 100000 in
theorem dX7_grow_35 : decode cX7_grow 35 = .ok (.getfield 18, 3) := (op_180 nb_dX7_grow_18.2.2.2.2.2.2.2.2.1).trans rfl
set_option maxRecDepth 100000 in
theorem dX7_grow_38 : decode cX7_grow 38 = .ok (.iload 4, 2) := (op_21 nb_dX7_grow_18.2.2.2.2.2.2.2.2.2.1).trans rfl
theorem dX7_grow_40 : decode cX7_grow 40 = .ok (.iload_n 2, 1) := op_28 nb_dX7_grow_18.2.2.2.2.2.2.2.2.2.2.1
theorem dX7_grow_41 : decode cX7_grow 41 = .ok (.iastore, 1) := op_79 nb_dX7_grow_18.2.2.2.2.2.2.2.2.2.2.2.1
theorem nb_dX7_grow_42 : bls_w cX7_grow [(42, [42]), (43, [27]), (44, [21, 4]), (46, [4]), (47, [100]), (48, [182, 0, 68]), (51, [154, 0, 30]), (54, [42]), (55, [27]), (56, [21, 4]), (58, [182, 0, 68]), (61, [154, 0, 20])] := bls_of (by decide +kernel)
theorem dX7_grow_42 : decode cX7_grow 42 = .ok (.aload_n 0, 1) := op_42 nb_dX7_grow_42.1
theorem dX7_grow_43 : decode cX7_grow 43 = .ok (.iload_n 1, 1) := op_27 nb_dX7_grow_42.2.1
set_option maxRecDepth 100000 in
theorem dX7_grow_44 : decode cX7_grow 44 = .ok (.iload 4, 2) := (op_21 nb_dX7_grow_42.2.2.1).trans rfl
theorem dX7_grow_46 : decode cX7_grow 46 = .ok (.iconst 1, 1) := op_4 nb_dX7_grow_42.2.2.2.1
theorem dX7_grow_47 : decode cX7_grow 47 = .ok (.isub, 1) := op_100 nb_dX7_grow_42.2.2.2.2.1
set_option maxRecDepth 100000 in
theorem dX7_grow_48 : decode cX7_grow 48 = .ok (.invokevirtual 68, 3) := (op_182 nb_dX7_grow_42.2.2.2.2.2.1).trans rfl
set_option maxRecDepth 100000 in
theorem dX7_grow_51 : decode cX7_grow 51 = .ok (.ifCond .ne 30, 3) := (op_154 nb_dX7_grow_42.2.2.2.2.2.2.1).trans rfl
theorem dX7_grow_54 : decode cX7_grow 54 = .ok (.aload_n 0, 1) := op_42 nb_dX7_grow_42.2.2.2.2.2.2.2.1
theorem dX7_grow_55 : decode cX7_grow 55 = .ok (.iload_n 1, 1) := op_27 nb_dX7_grow_42.2.2.2.2.2.2.2.2.1
set_option maxRecDepth 100000 in
theorem dX7_grow_56 : decode cX7_grow 56 = .ok (.iload 4, 2) := (op_21 nb_dX7_grow_42.2.2.2.2.2.2.2.2.2.1).trans rfl
set_option maxRecDepth 100000 in
theorem dX7_grow_58 : decode cX7_grow 58 = .ok (.invokevirtual 68, 3) := (op_182 nb_dX7_grow_42.2.2.2.2.2.2.2.2.2.2.1).trans rfl
set_option maxRecDepth 100000 in
theorem dX7_grow_61 : decode cX7_grow 61 = .ok (.ifCond .ne 20, 3) := (op_154 nb_dX7_grow_42.2.2.2.2.2.2.2.2.2.2.2.1).trans rfl
theorem nb_dX7_grow_64 : bls_w cX7_grow [(64, [42]), (65, [27]), (66, [28]), (67, [4]), (68, [96]), (69, [16, 10]), (71, [29]), (72, [104]), (73, [21, 4]), (75, [96]), (76, [4]), (77, [96])] := bls_of (by decide +kernel)
theorem dX7_grow_64 : decode cX7_grow 64 = .ok (.aload_n 0, 1) := op_42 nb_dX7_grow_64.1
theorem dX7_grow_65 : decode cX7_grow 65 = .ok (.iload_n 1, 1) := op_27 nb_dX7_grow_64.2.1
theorem dX7_grow_66 : decode cX7_grow 66 = .ok (.iload_n 2, 1) := op_28 nb_dX7_grow_64.2.2.1
theorem dX7_grow_67 : decode cX7_grow 67 = .ok (.iconst 1, 1) := op_4 nb_dX7_grow_64.2.2.2.1
theorem dX7_grow_68 : decode cX7_grow 68 = .ok (.iadd, 1) := op_96 nb_dX7_grow_64.2.2.2.2.1
set_option maxRecDepth 100000 in
theorem dX7_grow_69 : decode cX7_grow 69 = .ok (.bipush 10, 2) := (op_16 nb_dX7_grow_64.2.2.2.2.2.1).trans rfl
theorem dX7_grow_71 : decode cX7_grow 71 = .ok (.iload_n 3, 1) := op_29 nb_dX7_grow_64.2.2.2.2.2.2.1
theorem dX7_grow_72 : decode cX7_grow 72 = .ok (.imul, 1) := op_104 nb_dX7_grow_64.2.2.2.2.2.2.2.1
set_option maxRecDepth 100000 in
theorem dX7_grow_73 : decode cX7_grow 73 = .ok (.iload 4, 2) := (op_21 nb_dX7_grow_64.2.2.2.2.2.2.2.2.1).trans rfl
theorem dX7_grow_75 : decode cX7_grow 75 = .ok (.iadd, 1) := op_96 nb_dX7_grow_64.2.2.2.2.2.2.2.2.2.1
theorem dX7_grow_76 : decode cX7_grow 76 = .ok (.iconst 1, 1) := op_4 nb_dX7_grow_64.2.2.2.2.2.2.2.2.2.2.1
theorem dX7_grow_77 : decode cX7_grow 77 = .ok (.iadd, 1) := op_96 nb_dX7_grow_64.2.2.2.2.2.2.2.2.2.2.2.1
theorem nb_dX7_grow_78 : bls_w cX7_grow [(78, [182, 0, 43]), (81, [42]), (82, [180, 0, 18]), (85, [21, 4]), (87, [2]), (88, [79]), (89, [132, 4, 1]), (92, [167, 255, 179]), (95, [177])] := bls_of (by decide +kernel)
set_option maxRecDepth 100000 in
theorem dX7_grow_78 : decode cX7_grow 78 = .ok (.invokevirtual 43, 3) := (op_182 nb_dX7_grow_78.1).trans rfl
theorem dX7_grow_81 : decode cX7_grow 81 = .ok (.aload_n 0, 1) := op_42 nb_dX7_grow_78.2.1
set_option maxRecDepth 100000 in
theorem dX7_grow_82 : decode cX7_grow 82 = .ok (.getfield 18, 3) := (op_180 nb_dX7_grow_78.2.2.1).trans rfl
set_option maxRecDepth 100000 in
theorem dX7_grow_85 : decode cX7_grow 85 = .ok (.iload 4, 2) := (op_21 nb_dX7_grow_78.2.2.2.1).trans rfl
theorem dX7_grow_87 : decode cX7_grow 87 = .ok (.iconst (-1), 1) := op_2 nb_dX7_grow_78.2.2.2.2.1
theorem dX7_grow_88 : decode cX7_grow 88 = .ok (.iastore, 1) := op_79 nb_dX7_grow_78.2.2.2.2.2.1
set_option maxRecDepth 100000 in
theorem dX7_grow_89 : decode cX7_grow 89 = .ok (.iinc 4 1, 3) := (op_132 nb_dX7_grow_78.2.2.2.2.2.2.1).trans rfl
set_option maxRecDepth 100000 in
theorem dX7_grow_92 : decode cX7_grow 92 = .ok (.goto (-77), 3) := (op_167 nb_dX7_grow_78.2.2.2.2.2.2.2.1).trans rfl
theorem dX7_grow_95 : decode cX7_grow 95 = .ok (.return_, 1) := op_177 nb_dX7_grow_78.2.2.2.2.2.2.2.2.1
def fX7_grow_89 (N : Nat) (go : Int32 → Int32 → Int32 → List Int32 → List Int32 → List Int32 → Option (List Int32 × List Int32 × List Int32)) (k_15 : Int32 → Int32 → Int32 → Int32 → List Int32 → List Int32 → List Int32 → Option (List Int32 × List Int32 × List Int32)) (x1 : Int32) (x2 : Int32) (x3 : Int32) (x4 : Int32) (v_list : List Int32) (v_found : List Int32) (v_at : List Int32) : Option (List Int32 × List Int32 × List Int32) :=
    mm_nm (x4 + (1 : Int32)) (fun (y_20 : Int32) =>
    k_15 x1 x2 x3 y_20 v_list v_found v_at)

set_option maxHeartbeats 4000000 in
set_option maxRecDepth 100000 in
theorem tX7_grow_89 {p : Program} {l : Launch} {e : Env} {s : State} {m : MethodId} {args : Array Value} {below : List Frame} {meth : Method} {c : Code} {D : va_G} {cI cL cS cH : ClassId} {A : Nat → Prop} {d : Nat} {a : Nat → Nat} {go : Int32 → Int32 → Int32 → List Int32 → List Int32 → List Int32 → Option (List Int32 × List Int32 × List Int32)} {dgo : Nat} (hgo : ∀ (a : Nat → Nat) (x1 : Int32) (x2 : Int32) (x3 : Int32) (v_list : List Int32) (v_found : List Int32) (v_at : List Int32) (w_list : List Int32) (w_found : List Int32) (w_at : List Int32), go x1 x2 x3 v_list v_found v_at = some (w_list, w_found, w_at) → mm_Ct l yX7_grow cX7_grow 5 none dgo D (mm_T cI cL cS cH) [.ref (a 0), .int x1, .int x2, .int x3] (wd_X7 cI cL cS cH a v_list v_found v_at) (wd_X7 cI cL cS cH a w_list w_found w_at) none) (hE : 3 ≤ dgo) (hd : dgo + 1 ≤ d) (C0 : mm_Cx p s m args meth c RX7 cX7_grow 5 none D (mm_T cI cL cS cH) A) (hA : ∀ q, s.heap.size ≤ q → A q)  {w_list : List Int32} {w_found : List Int32} {w_at : List Int32} (N : Nat) {k_15 : Int32 → Int32 → Int32 → Int32 → List Int32 → List Int32 → List Int32 → Option (List Int32 × List Int32 × List Int32)} (hk_15 : ∀ (x1 : Int32) (x2 : Int32) (x3 : Int32) (x4 : Int32) (v_list : List Int32) (v_found : List Int32) (v_at : List Int32) (H : Heap) (locs : List Loc) (ls : Array Slot), k_15 x1 x2 x3 x4 v_list v_found v_at = some (w_list, w_found, w_at) → va_P D mm_cl (wd_X7 cI cL cS cH a v_list v_found v_at) H → va_D A (wd_X7 cI cL cS cH a v_list v_found v_at) → va_S A s.heap H locs → lv_has ls 5 [(0, .ref (a 0)), (1, .int x1), (2, .int x2), (3, .int x3), (4, .int x4)] → W p l e (mm_rr d) s m args below meth c H locs 0 0 (mm_Z below D A (wd_X7 cI cL cS cH a w_list w_found w_at) none args s) (F0 m 15 ls [])) : ∀ (x1 : Int32) (x2 : Int32) (x3 : Int32) (x4 : Int32) (v_list : List Int32) (v_found : List Int32) (v_at : List Int32) (H : Heap) (locs : List Loc) (ls : Array Slot), fX7_grow_89 N go k_15 x1 x2 x3 x4 v_list v_found v_at = some (w_list, w_found, w_at) → va_P D mm_cl (wd_X7 cI cL cS cH a v_list v_found v_at) H → va_D A (wd_X7 cI cL cS cH a v_list v_found v_at) → va_S A s.heap H locs → lv_has ls 5 [(0, .ref (a 0)), (1, .int x1), (2, .int x2), (3, .int x3), (4, .int x4)] → W p l e (mm_rr d) s m args below meth c H locs 0 0 (mm_Z below D A (wd_X7 cI cL cS cH a w_list w_found w_at) none args s) (F0 m 89 ls []) := by
  obtain ⟨hx, hb, hml, hown, hts, hr, hlocks, hK, hSt⟩ := id C0
  intro x1 x2 x3 x4 v_list v_found v_at H locs ls hf hP hD hS hl
  unfold fX7_grow_89 at hf
  obtain ⟨y_20, ey_20⟩ : ∃ z : Int32, z = x4 + (1 : Int32) := ⟨_, rfl⟩
  have hf := mm_nms hf ey_20
  refine lv_iinc (v := y_20) (lv' := [(4, .int y_20), (0, .ref (a 0)), (1, .int x1), (2, .int x2), (3, .int x3)]) hx hb dX7_grow_89 hl (k := 4) rfl (by rw [ey_20]; rfl) (by decide) rfl (fun ls hl => ?_)
  refine lv_goto (tgt := 15) hx hb dX7_grow_92 (by decide) ?_
  exact hk_15 _ _ _ _ _ _ _ H locs ls hf hP hD hS (lv_sub hl [1, 2, 3, 4, 0] rfl)

def fX7_grow_81 (N : Nat) (go : Int32 → Int32 → Int32 → List Int32 → List Int32 → List Int32 → Option (List Int32 × List Int32 × List Int32)) (k_15 : Int32 → Int32 → Int32 → Int32 → List Int32 → List Int32 → List Int32 → Option (List Int32 × List Int32 × List Int32)) (x1 : Int32) (x2 : Int32) (x3 : Int32) (x4 : Int32) (v_list : List Int32) (v_found : List Int32) (v_at : List Int32) : Option (List Int32 × List Int32 × List Int32) :=
    mm_ck (mm_inb x4 v_at.length) (mm_nm (mm_is v_at x4 (-1 : Int32)) (fun (l_22 : List Int32) =>
    fX7_grow_89 N go k_15 x1 x2 x3 x4 v_list v_found l_22))

set_option maxHeartbeats 4000000 in
set_option maxRecDepth 100000 in
theorem tX7_grow_81 {p : Program} {l : Launch} {e : Env} {s : State} {m : MethodId} {args : Array Value} {below : List Frame} {meth : Method} {c : Code} {D : va_G} {cI cL cS cH : ClassId} {A : Nat → Prop} {d : Nat} {a : Nat → Nat} {go : Int32 → Int32 → Int32 → List Int32 → List Int32 → List Int32 → Option (List Int32 × List Int32 × List Int32)} {dgo : Nat} (hgo : ∀ (a : Nat → Nat) (x1 : Int32) (x2 : Int32) (x3 : Int32) (v_list : List Int32) (v_found : List Int32) (v_at : List Int32) (w_list : List Int32) (w_found : List Int32) (w_at : List Int32), go x1 x2 x3 v_list v_found v_at = some (w_list, w_found, w_at) → mm_Ct l yX7_grow cX7_grow 5 none dgo D (mm_T cI cL cS cH) [.ref (a 0), .int x1, .int x2, .int x3] (wd_X7 cI cL cS cH a v_list v_found v_at) (wd_X7 cI cL cS cH a w_list w_found w_at) none) (hE : 3 ≤ dgo) (hd : dgo + 1 ≤ d) (C0 : mm_Cx p s m args meth c RX7 cX7_grow 5 none D (mm_T cI cL cS cH) A) (hA : ∀ q, s.heap.size ≤ q → A q)  {w_list : List Int32} {w_found : List Int32} {w_at : List Int32} (N : Nat) {k_15 : Int32 → Int32 → Int32 → Int32 → List Int32 → List Int32 → List Int32 → Option (List Int32 × List Int32 × List Int32)} (hk_15 : ∀ (x1 : Int32) (x2 : Int32) (x3 : Int32) (x4 : Int32) (v_list : List Int32) (v_found : List Int32) (v_at : List Int32) (H : Heap) (locs : List Loc) (ls : Array Slot), k_15 x1 x2 x3 x4 v_list v_found v_at = some (w_list, w_found, w_at) → va_P D mm_cl (wd_X7 cI cL cS cH a v_list v_found v_at) H → va_D A (wd_X7 cI cL cS cH a v_list v_found v_at) → va_S A s.heap H locs → lv_has ls 5 [(0, .ref (a 0)), (1, .int x1), (2, .int x2), (3, .int x3), (4, .int x4)] → W p l e (mm_rr d) s m args below meth c H locs 0 0 (mm_Z below D A (wd_X7 cI cL cS cH a w_list w_found w_at) none args s) (F0 m 15 ls [])) : ∀ (x1 : Int32) (x2 : Int32) (x3 : Int32) (x4 : Int32) (v_list : List Int32) (v_found : List Int32) (v_at : List Int32) (H : Heap) (locs : List Loc) (ls : Array Slot), fX7_grow_81 N go k_15 x1 x2 x3 x4 v_list v_found v_at = some (w_list, w_found, w_at) → va_P D mm_cl (wd_X7 cI cL cS cH a v_list v_found v_at) H → va_D A (wd_X7 cI cL cS cH a v_list v_found v_at) → va_S A s.heap H locs → lv_has ls 5 [(0, .ref (a 0)), (1, .int x1), (2, .int x2), (3, .int x3), (4, .int x4)] → W p l e (mm_rr d) s m args below meth c H locs 0 0 (mm_Z below D A (wd_X7 cI cL cS cH a w_list w_found w_at) none args s) (F0 m 81 ls []) := by
  obtain ⟨hx, hb, hml, hown, hts, hr, hlocks, hK, hSt⟩ := id C0
  intro x1 x2 x3 x4 v_list v_found v_at H locs ls hf hP hD hS hl
  unfold fX7_grow_81 at hf
  refine lv_aload_n hx hb dX7_grow_81 rfl (lv_at hl 0 rfl) ?_
  refine mm_get C0 hP iw_X7 0 rfl rfl 2 (by decide) fl_X7_18 rfl dX7_grow_82 ?_
  refine lv_iload hx hb dX7_grow_85 (lv_at hl 4 rfl) ?_
  refine lv_iconst (v := -1) hx hb dX7_grow_87 (by decide) ?_
  obtain ⟨h_21, hf⟩ := mm_cks hf
  refine mm_iast C0 hP hD hS 3 rfl h_21 dX7_grow_88 (w2 := (wd_X7 cI cL cS cH a v_list v_found (mm_is v_at x4 (-1 : Int32)))) rfl (fun H locs hP hD hS => ?_)
  generalize el_22 : (mm_is v_at x4 (-1 : Int32)) = l_22 at hP hD
  have hf := mm_nms hf el_22.symm
  exact tX7_grow_89 hgo hE hd C0 hA N hk_15 _ _ _ _ _ _ _ H locs ls hf hP hD hS (lv_sub hl [0, 1, 2, 3, 4] rfl)

def fX7_grow_15 (N : Nat) (go : Int32 → Int32 → Int32 → List Int32 → List Int32 → List Int32 → Option (List Int32 × List Int32 × List Int32))  : Nat → Int32 → Int32 → Int32 → Int32 → List Int32 → List Int32 → List Int32 → Option (List Int32 × List Int32 × List Int32)
  | 0 => fun _ _ _ _ _ _ _ => none
  | n + 1 => fun x1 x2 x3 x4 v_list v_found v_at =>
    if x1 ≤ x4 then
    (some (v_list, v_found, v_at))
    else (mm_ck (mm_inb x4 v_at.length) (if (mm_ig v_at x4) < 0 then
    (mm_ck (mm_inb x4 v_at.length) (mm_nm (mm_is v_at x4 x2) (fun (l_9 : List Int32) =>
    mm_bd1 (fX7_crossesLaid N x1 (x4 - (1 : Int32)) l_9) (fun (r_10 : Bool) =>
    if r_10 = false then
    (mm_bd1 (fX7_crossesLaid N x1 x4 l_9) (fun (r_13 : Bool) =>
    if r_13 = false then
    (mm_bd3 (go x1 (x2 + (1 : Int32)) ((((10 : Int32) * x3) + x4) + (1 : Int32)) v_list v_found l_9) (fun (w_16 : List Int32) (w_17 : List Int32) (w_18 : List Int32) =>
    fX7_grow_81 N go (fX7_grow_15 N go n) x1 x2 x3 x4 w_16 w_17 w_18))
    else (fX7_grow_81 N go (fX7_grow_15 N go n) x1 x2 x3 x4 v_list v_found l_9)))
    else (fX7_grow_81 N go (fX7_grow_15 N go n) x1 x2 x3 x4 v_list v_found l_9)))))
    else (fX7_grow_89 N go (fX7_grow_15 N go n) x1 x2 x3 x4 v_list v_found v_at)))

set_option maxHeartbeats 4000000 in
set_option maxRecDepth 100000 in
theorem tX7_grow_15 {p : Program} {l : Launch} {e : Env} {s : State} {m : MethodId} {args : Array Value} {below : List Frame} {meth : Method} {c : Code} {D : va_G} {cI cL cS cH : ClassId} {A : Nat → Prop} {d : Nat} {a : Nat → Nat} {go : Int32 → Int32 → Int32 → List Int32 → List Int32 → List Int32 → Option (List Int32 × List Int32 × List Int32)} {dgo : Nat} (hgo : ∀ (a : Nat → Nat) (x1 : Int32) (x2 : Int32) (x3 : Int32) (v_list : List Int32) (v_found : List Int32) (v_at : List Int32) (w_list : List Int32) (w_found : List Int32) (w_at : List Int32), go x1 x2 x3 v_list v_found v_at = some (w_list, w_found, w_at) → mm_Ct l yX7_grow cX7_grow 5 none dgo D (mm_T cI cL cS cH) [.ref (a 0), .int x1, .int x2, .int x3] (wd_X7 cI cL cS cH a v_list v_found v_at) (wd_X7 cI cL cS cH a w_list w_found w_at) none) (hE : 3 ≤ dgo) (hd : dgo + 1 ≤ d) (C0 : mm_Cx p s m args meth c RX7 cX7_grow 5 none D (mm_T cI cL cS cH) A) (hA : ∀ q, s.heap.size ≤ q → A q)  {w_list : List Int32} {w_found : List Int32} {w_at : List Int32} (N : Nat)  : ∀ (n : Nat), ∀ (x1 : Int32) (x2 : Int32) (x3 : Int32) (x4 : Int32) (v_list : List Int32) (v_found : List Int32) (v_at : List Int32) (H : Heap) (locs : List Loc) (ls : Array Slot), fX7_grow_15 N go n x1 x2 x3 x4 v_list v_found v_at = some (w_list, w_found, w_at) → va_P D mm_cl (wd_X7 cI cL cS cH a v_list v_found v_at) H → va_D A (wd_X7 cI cL cS cH a v_list v_found v_at) → va_S A s.heap H locs → lv_has ls 5 [(0, .ref (a 0)), (1, .int x1), (2, .int x2), (3, .int x3), (4, .int x4)] → W p l e (mm_rr d) s m args below meth c H locs 0 0 (mm_Z below D A (wd_X7 cI cL cS cH a w_list w_found w_at) none args s) (F0 m 15 ls []) := by
  obtain ⟨hx, hb, hml, hown, hts, hr, hlocks, hK, hSt⟩ := id C0
  intro n
  induction n with
  | zero =>
    intro x1 x2 x3 x4 v_list v_found v_at H locs ls hf
    cases (show none = some _ from hf)
  | succ n ih =>
    intro x1 x2 x3 x4 v_list v_found v_at H locs ls hf hP hD hS hl
    unfold fX7_grow_15 at hf
    refine lv_iload hx hb dX7_grow_15 (lv_at hl 4 rfl) ?_
    refine lv_iload_n hx hb dX7_grow_17 rfl (lv_at hl 1 rfl) ?_
    refine lv_icmp_ge (tgt := 95) hx hb dX7_grow_18 (by decide) (fun c_5 => ?_) (fun c_5 => ?_)
    · have hf := mm_ip hf c_5
      apply mm_sub3 hf
      exact mm_vret C0 hP hD hS dX7_grow_95
    · have hf := mm_in hf c_5
      refine lv_aload_n hx hb dX7_grow_21 rfl (lv_at hl 0 rfl) ?_
      refine mm_get C0 hP iw_X7 0 rfl rfl 2 (by decide) fl_X7_18 rfl dX7_grow_22 ?_
      refine lv_iload hx hb dX7_grow_25 (lv_at hl 4 rfl) ?_
      obtain ⟨h_6, hf⟩ := mm_cks hf
      refine mm_iald C0 hP 3 rfl h_6 dX7_grow_27 ?_
      refine lv_if_lt (tgt := 34) hx hb dX7_grow_28 (by decide) (fun c_7 => ?_) (fun c_7 => ?_)
      · have hf := mm_ip hf c_7
        refine lv_aload_n hx hb dX7_grow_34 rfl (lv_at hl 0 rfl) ?_
        refine mm_get C0 hP iw_X7 0 rfl rfl 2 (by decide) fl_X7_18 rfl dX7_grow_35 ?_
        refine lv_iload hx hb dX7_grow_38 (lv_at hl 4 rfl) ?_
        refine lv_iload_n hx hb dX7_grow_40 rfl (lv_at hl 2 rfl) ?_
        obtain ⟨h_8, hf⟩ := mm_cks hf
        refine mm_iast C0 hP hD hS 3 rfl h_8 dX7_grow_41 (w2 := (wd_X7 cI cL cS cH a v_list v_found (mm_is v_at x4 x2))) rfl (fun H locs hP hD hS => ?_)
        generalize el_9 : (mm_is v_at x4 x2) = l_9 at hP hD
        have hf := mm_nms hf el_9.symm
        refine lv_aload_n hx hb dX7_grow_42 rfl (lv_at hl 0 rfl) ?_
        refine lv_iload_n hx hb dX7_grow_43 rfl (lv_at hl 1 rfl) ?_
        refine lv_iload hx hb dX7_grow_44 (lv_at hl 4 rfl) ?_
        refine lv_iconst (v := 1) hx hb dX7_grow_46 (by decide) ?_
        refine lv_isub hx hb dX7_grow_47 ?_
        obtain ⟨r_10, hc_11, hf⟩ := mm_bd1s hf
        refine mm_callVF (q0 := 0) (ci := 7) (rest := []) C0 lk_X7_68 (ctX7_crossesLaid (a := a) (d := d - 1) (by omega) hc_11) (by omega) rfl hl.1 rfl (mm_cat rfl) dX7_grow_48 hP hD hA hS rfl rfl (fun H locs hP hD hS => ?_)
        refine W.eq (g2 := F0 m 51 ls [.int (mm_b r_10)]) rfl ?_
        refine lv_if_ne (tgt := 81) hx hb dX7_grow_51 (by decide) (fun c_12 => ?_) (fun c_12 => ?_)
        · have hf := mm_in hf (mm_b1 c_12)
          exact tX7_grow_81 hgo hE hd C0 hA N ih _ _ _ _ _ _ _ H locs ls hf hP hD hS (lv_sub hl [0, 1, 2, 3, 4] rfl)
        · have hf := mm_ip hf (mm_b0 c_12)
          refine lv_aload_n hx hb dX7_grow_54 rfl (lv_at hl 0 rfl) ?_
          refine lv_iload_n hx hb dX7_grow_55 rfl (lv_at hl 1 rfl) ?_
          refine lv_iload hx hb dX7_grow_56 (lv_at hl 4 rfl) ?_
          obtain ⟨r_13, hc_14, hf⟩ := mm_bd1s hf
          refine mm_callVF (q0 := 0) (ci := 7) (rest := []) C0 lk_X7_68 (ctX7_crossesLaid (a := a) (d := d - 1) (by omega) hc_14) (by omega) rfl hl.1 rfl (mm_cat rfl) dX7_grow_58 hP hD hA hS rfl rfl (fun H locs hP hD hS => ?_)
          refine W.eq (g2 := F0 m 61 ls [.int (mm_b r_13)]) rfl ?_
          refine lv_if_ne (tgt := 81) hx hb dX7_grow_61 (by decide) (fun c_15 => ?_) (fun c_15 => ?_)
          · have hf := mm_in hf (mm_b1 c_15)
            exact tX7_grow_81 hgo hE hd C0 hA N ih _ _ _ _ _ _ _ H locs ls hf hP hD hS (lv_sub hl [0, 1, 2, 3, 4] rfl)
          · have hf := mm_ip hf (mm_b0 c_15)
            refine lv_aload_n hx hb dX7_grow_64 rfl (lv_at hl 0 rfl) ?_
            refine lv_iload_n hx hb dX7_grow_65 rfl (lv_at hl 1 rfl) ?_
            refine lv_iload_n hx hb dX7_grow_66 rfl (lv_at hl 2 rfl) ?_
            refine lv_iconst (v := 1) hx hb dX7_grow_67 (by decide) ?_
            refine lv_iadd hx hb dX7_grow_68 ?_
            refine lv_bipush (v := 10) hx hb dX7_grow_69 (by decide) ?_
            refine lv_iload_n hx hb dX7_grow_71 rfl (lv_at hl 3 rfl) ?_
            refine lv_imul hx hb dX7_grow_72 ?_
            refine lv_iload hx hb dX7_grow_73 (lv_at hl 4 rfl) ?_
            refine lv_iadd hx hb dX7_grow_75 ?_
            refine lv_iconst (v := 1) hx hb dX7_grow_76 (by decide) ?_
            refine lv_iadd hx hb dX7_grow_77 ?_
            obtain ⟨w_16, w_17, w_18, hc_19, hf⟩ := mm_bd3s hf
            refine mm_callVF (q0 := 0) (ci := 7) (rest := []) C0 lk_X7_43 (hgo a _ _ _ _ _ _ _ _ _ hc_19) (by omega) rfl hl.1 rfl (mm_cat rfl) dX7_grow_78 hP hD hA hS rfl rfl (fun H locs hP hD hS => ?_)
            refine W.eq (g2 := F0 m 81 ls []) rfl ?_
            exact tX7_grow_81 hgo hE hd C0 hA N ih _ _ _ _ _ _ _ H locs ls hf hP hD hS (lv_sub hl [0, 1, 2, 3, 4] rfl)
      · have hf := mm_in hf c_7
        refine lv_goto (tgt := 89) hx hb dX7_grow_31 (by decide) ?_
        exact tX7_grow_89 hgo hE hd C0 hA N ih _ _ _ _ _ _ _ H locs ls hf hP hD hS (lv_sub hl [0, 1, 2, 3, 4] rfl)

def fX7_growo (N : Nat) (go : Int32 → Int32 → Int32 → List Int32 → List Int32 → List Int32 → Option (List Int32 × List Int32 × List Int32)) (x1 : Int32) (x2 : Int32) (x3 : Int32) (v_list : List Int32) (v_found : List Int32) (v_at : List Int32) : Option (List Int32 × List Int32 × List Int32) :=
    if x2 = x1 then
    (mm_bd2 (fX7_enter N x1 x3 v_list v_found) (fun (w_2 : List Int32) (w_3 : List Int32) =>
    some (w_2, w_3, v_at)))
    else (fX7_grow_15 N go N x1 x2 x3 (0 : Int32) v_list v_found v_at)

set_option maxHeartbeats 4000000 in
set_option maxRecDepth 100000 in
theorem ctX7_growo {l : Launch} {D : va_G} {cI cL cS cH : ClassId} {a : Nat → Nat} {x1 : Int32} {x2 : Int32} {x3 : Int32} {v_list : List Int32} {v_found : List Int32} {v_at : List Int32} {w_list : List Int32} {w_found : List Int32} {w_at : List Int32} {N d : Nat} {go : Int32 → Int32 → Int32 → List Int32 → List Int32 → List Int32 → Option (List Int32 × List Int32 × List Int32)} {dgo : Nat} (hgo : ∀ (a : Nat → Nat) (x1 : Int32) (x2 : Int32) (x3 : Int32) (v_list : List Int32) (v_found : List Int32) (v_at : List Int32) (w_list : List Int32) (w_found : List Int32) (w_at : List Int32), go x1 x2 x3 v_list v_found v_at = some (w_list, w_found, w_at) → mm_Ct l yX7_grow cX7_grow 5 none dgo D (mm_T cI cL cS cH) [.ref (a 0), .int x1, .int x2, .int x3] (wd_X7 cI cL cS cH a v_list v_found v_at) (wd_X7 cI cL cS cH a w_list w_found w_at) none) (hE : 3 ≤ dgo) (hd : dgo + 1 ≤ d) (hf : fX7_growo N go x1 x2 x3 v_list v_found v_at = some (w_list, w_found, w_at)) : mm_Ct l yX7_grow cX7_grow 5 none d D (mm_T cI cL cS cH) [.ref (a 0), .int x1, .int x2, .int x3] (wd_X7 cI cL cS cH a v_list v_found v_at) (wd_X7 cI cL cS cH a w_list w_found w_at) none := by
  refine mm_of (by decide) (Nat.le_of_ble_eq_true rfl) ?_
  intro p e s m args below meth c A H locs ls C0 hP hD hA hS hl
  have C0 : mm_Cx p s m args meth c RX7 cX7_grow 5 none D (mm_T cI cL cS cH) A := C0
  obtain ⟨hx, hb, hml, hown, hts, hr, hlocks, hK, hSt⟩ := id C0
  have hl : lv_has ls 5 [(0, .ref (a 0)), (1, .int x1), (2, .int x2), (3, .int x3)] := hl
  unfold fX7_growo at hf
  refine lv_iload_n hx hb dX7_grow_0 rfl (lv_at hl 2 rfl) ?_
  refine lv_iload_n hx hb dX7_grow_1 rfl (lv_at hl 1 rfl) ?_
  refine lv_icmp_ne (tgt := 12) hx hb dX7_grow_2 (by decide) (fun c_1 => ?_) (fun c_1 => ?_)
  · have hf := mm_in hf c_1
    refine lv_iconst (v := 0) hx hb dX7_grow_12 (by decide) ?_
    refine lv_istore (lv' := [(4, .int (0 : Int32)), (0, .ref (a 0)), (1, .int x1), (2, .int x2), (3, .int x3)]) hx hb dX7_grow_13 hl (by decide) rfl (fun ls hl => ?_)
    exact tX7_grow_15 hgo hE hd C0 hA N  N _ _ _ _ _ _ _ H locs ls hf hP hD hS (lv_sub hl [1, 2, 3, 4, 0] rfl)
  · have hf := mm_ip hf c_1
    refine lv_aload_n hx hb dX7_grow_5 rfl (lv_at hl 0 rfl) ?_
    refine lv_iload_n hx hb dX7_grow_6 rfl (lv_at hl 1 rfl) ?_
    refine lv_iload_n hx hb dX7_grow_7 rfl (lv_at hl 3 rfl) ?_
    obtain ⟨w_2, w_3, hc_4, hf⟩ := mm_bd2s hf
    refine mm_callVF (q0 := 0) (ci := 7) (rest := []) C0 lk_X7_64 (ctX7_enter (a := a) (d := d - 1) (by omega) hc_4) (by omega) rfl hl.1 rfl (mm_cat rfl) dX7_grow_8 hP hD hA hS rfl rfl (fun H locs hP hD hS => ?_)
    refine W.eq (g2 := F0 m 11 ls []) rfl ?_
    apply mm_sub3 hf
    exact mm_vret C0 hP hD hS dX7_grow_11

def fX7_grow (N : Nat) : Nat → Int32 → Int32 → Int32 → List Int32 → List Int32 → List Int32 → Option (List Int32 × List Int32 × List Int32)
  | 0 => fun _ _ _ _ _ _ => none
  | M + 1 => fX7_growo N (fX7_grow N M)
set_option maxHeartbeats 4000000 in
set_option maxRecDepth 100000 in
theorem ctX7_grow {l : Launch} {D : va_G} {cI cL cS cH : ClassId} {N : Nat} : ∀ (M d : Nat), 3 + 1 * M ≤ d → ∀ (a : Nat → Nat) (x1 : Int32) (x2 : Int32) (x3 : Int32) (v_list : List Int32) (v_found : List Int32) (v_at : List Int32) (w_list : List Int32) (w_found : List Int32) (w_at : List Int32), fX7_grow N M x1 x2 x3 v_list v_found v_at = some (w_list, w_found, w_at) → mm_Ct l yX7_grow cX7_grow 5 none d D (mm_T cI cL cS cH) [.ref (a 0), .int x1, .int x2, .int x3] (wd_X7 cI cL cS cH a v_list v_found v_at) (wd_X7 cI cL cS cH a w_list w_found w_at) none := by
  intro M
  induction M with
  | zero =>
    intro d hd a x1 x2 x3 v_list v_found v_at w_list w_found w_at hf
    cases (show none = some _ from hf)
  | succ M ih =>
    intro d hd a x1 x2 x3 v_list v_found v_at w_list w_found w_at hf
    exact ctX7_growo (N := N) (ih (3 + 1 * M) (Nat.le_refl _)) (Nat.le_add_right _ _) (by omega) hf

theorem nb_dX7_howMany_0 : bls_w cX7_howMany [(0, [42]), (1, [180, 0, 15]), (4, [27]), (5, [46]), (6, [154, 0, 18]), (9, [42]), (10, [180, 0, 18]), (13, [2]), (14, [184, 0, 21]), (17, [42]), (18, [27]), (19, [3])] := bls_of (by decide +kernel)
theorem dX7_howMany_0 : decode cX7_howMany 0 = .ok (.aload_n 0, 1) := op_42 nb_dX7_howMany_0.1
set_option maxRecDepth 100000 in
theorem dX7_howMany_1 : decode cX7_howMany 1 = .ok (.getfield 15, 3) := (op_180 nb_dX7_howMany_0.2.1).trans rfl
theorem dX7_howMany_4 : decode cX7_howMany 4 = .ok (.iload_n 1, 1) := op_27 nb_dX7_howMany_0.2.2.1
theorem dX7_howMany_5 : decode cX7_howMany 5 = .ok (.iaload, 1) := op_46 nb_dX7_howMany_0.2.2.2.1
set_option maxRecDepth 100000 in
theorem dX7_howMany_6 : decode cX7_howMany 6 = .ok (.ifCond .ne 18, 3) := (op_154 nb_dX7_howMany_0.2.2.2.2.1).trans rfl
theorem dX7_howMany_9 : decode cX7_howMany 9 = .ok (.aload_n 0, 1) := op_42 nb_dX7_howMany_0.2.2.2.2.2.1
set_option maxRecDepth 100000 in
theorem dX7_howMany_10 : decode cX7_howMany 10 = .ok (.getfield 18, 3) := (op_180 nb_dX7_howMany_0.2.2.2.2.2.2.1).trans rfl
theorem dX7_howMany_13 : decode cX7_howMany 13 = .ok (.iconst (-1), 1) := op_2 nb_dX7_howMany_0.2.2.2.2.2.2.2.1
set_option maxRecDepth 100000 in
theorem dX7_howMany_14 : decode cX7_howMany 14 = .ok (.invokestatic 21, 3) := (op_184 nb_dX7_howMany_0.2.2.2.2.2.2.2.2.1).trans rfl
theorem dX7_howMany_17 : decode cX7_howMany 17 = .ok (.aload_n 0, 1) := op_42 nb_dX7_howMany_0.2.2.2.2.2.2.2.2.2.1
theorem dX7_howMany_18 : decode cX7_howMany 18 = .ok (.iload_n 1, 1) := op_27 nb_dX7_howMany_0.2.2.2.2.2.2.2.2.2.2.1
theorem dX7_howMany_19 : decode cX7_howMany 19 = .ok (.iconst 0, 1) := op_3 nb_dX7_howMany_0.2.2.2.2.2.2.2.2.2.2.2.1
theorem nb_dX7_howMany_20 : bls_w cX7_howMany [(20, [3]), (21, [182, 0, 43]), (24, [42]), (25, [180, 0, 15]), (28, [27]), (29, [46]), (30, [172])] := bls_of (by decide +kernel)
theorem dX7_howMany_20 : decode cX7_howMany 20 = .ok (.iconst 0, 1) := op_3 nb_dX7_howMany_20.1
set_option maxRecDepth 100000 in
theorem dX7_howMany_21 : decode cX7_howMany 21 = .ok (.invokevirtual 43, 3) := (op_182 nb_dX7_howMany_20.2.1).trans rfl
theorem dX7_howMany_24 : decode cX7_howMany 24 = .ok (.aload_n 0, 1) := op_42 nb_dX7_howMany_20.2.2.1
set_option maxRecDepth 100000 in
theorem dX7_howMany_25 : decode cX7_howMany 25 = .ok (.getfield 15, 3) := (op_180 nb_dX7_howMany_20.2.2.2.1).trans rfl
theorem dX7_howMany_28 : decode cX7_howMany 28 = .ok (.iload_n 1, 1) := op_27 nb_dX7_howMany_20.2.2.2.2.1
theorem dX7_howMany_29 : decode cX7_howMany 29 = .ok (.iaload, 1) := op_46 nb_dX7_howMany_20.2.2.2.2.2.1
theorem dX7_howMany_30 : decode cX7_howMany 30 = .ok (.ireturn, 1) := op_172 nb_dX7_howMany_20.2.2.2.2.2.2.1
def fX7_howMany_24 (N : Nat)  (x1 : Int32) (v_list : List Int32) (v_found : List Int32) (v_at : List Int32) : Option (Int32 × List Int32 × List Int32 × List Int32) :=
    mm_ck (mm_inb x1 v_found.length) (some ((mm_ig v_found x1), v_list, v_found, v_at))

set_option maxHeartbeats 4000000 in
set_option maxRecDepth 100000 in
theorem tX7_howMany_24 {p : Program} {l : Launch} {e : Env} {s : State} {m : MethodId} {args : Array Value} {below : List Frame} {meth : Method} {c : Code} {D : va_G} {cI cL cS cH : ClassId} {A : Nat → Prop} {d : Nat} {a : Nat → Nat} (hd : 13 ≤ d) (C0 : mm_Cx p s m args meth c RX7 cX7_howMany 2 (some .int) D (mm_T cI cL cS cH) A) (hA : ∀ q, s.heap.size ≤ q → A q)  {r : Int32} {w_list : List Int32} {w_found : List Int32} {w_at : List Int32} (N : Nat)  : ∀ (x1 : Int32) (v_list : List Int32) (v_found : List Int32) (v_at : List Int32) (H : Heap) (locs : List Loc) (ls : Array Slot), fX7_howMany_24 N x1 v_list v_found v_at = some (r, w_list, w_found, w_at) → va_P D mm_cl (wd_X7 cI cL cS cH a v_list v_found v_at) H → va_D A (wd_X7 cI cL cS cH a v_list v_found v_at) → va_S A s.heap H locs → lv_has ls 2 [(0, .ref (a 0)), (1, .int x1)] → W p l e (mm_rr d) s m args below meth c H locs 0 0 (mm_Z below D A (wd_X7 cI cL cS cH a w_list w_found w_at) (some (.int r)) args s) (F0 m 24 ls []) := by
  obtain ⟨hx, hb, hml, hown, hts, hr, hlocks, hK, hSt⟩ := id C0
  intro x1 v_list v_found v_at H locs ls hf hP hD hS hl
  unfold fX7_howMany_24 at hf
  refine lv_aload_n hx hb dX7_howMany_24 rfl (lv_at hl 0 rfl) ?_
  refine mm_get C0 hP iw_X7 0 rfl rfl 1 (by decide) fl_X7_15 rfl dX7_howMany_25 ?_
  refine lv_iload_n hx hb dX7_howMany_28 rfl (lv_at hl 1 rfl) ?_
  obtain ⟨h_9, hf⟩ := mm_cks hf
  refine mm_iald C0 hP 2 rfl h_9 dX7_howMany_29 ?_
  apply mm_sub4 hf
  exact mm_iret C0 hP hD hS dX7_howMany_30

def fX7_howMany (N : Nat) (x1 : Int32) (v_list : List Int32) (v_found : List Int32) (v_at : List Int32) : Option (Int32 × List Int32 × List Int32 × List Int32) :=
    mm_ck (mm_inb x1 v_found.length) (if (mm_ig v_found x1) = 0 then
    (mm_bd1 (fJ7_fill_53178 N (-1 : Int32) v_at) (fun (w_3 : List Int32) =>
    mm_bd3 (fX7_grow N 9 x1 (0 : Int32) (0 : Int32) v_list v_found w_3) (fun (w_5 : List Int32) (w_6 : List Int32) (w_7 : List Int32) =>
    fX7_howMany_24 N x1 w_5 w_6 w_7)))
    else (fX7_howMany_24 N x1 v_list v_found v_at))

set_option maxHeartbeats 4000000 in
set_option maxRecDepth 100000 in
theorem ctX7_howMany {l : Launch} {D : va_G} {cI cL cS cH : ClassId} {a : Nat → Nat} {x1 : Int32} {v_list : List Int32} {v_found : List Int32} {v_at : List Int32} {r : Int32} {w_list : List Int32} {w_found : List Int32} {w_at : List Int32} {N d : Nat} (hd : 13 ≤ d) (hf : fX7_howMany N x1 v_list v_found v_at = some (r, w_list, w_found, w_at)) : mm_Ct l yX7_howMany cX7_howMany 2 (some .int) d D (mm_T cI cL cS cH) [.ref (a 0), .int x1] (wd_X7 cI cL cS cH a v_list v_found v_at) (wd_X7 cI cL cS cH a w_list w_found w_at) (some (.int r)) := by
  refine mm_of (by decide) (Nat.le_of_ble_eq_true rfl) ?_
  intro p e s m args below meth c A H locs ls C0 hP hD hA hS hl
  have C0 : mm_Cx p s m args meth c RX7 cX7_howMany 2 (some .int) D (mm_T cI cL cS cH) A := C0
  obtain ⟨hx, hb, hml, hown, hts, hr, hlocks, hK, hSt⟩ := id C0
  have hl : lv_has ls 2 [(0, .ref (a 0)), (1, .int x1)] := hl
  unfold fX7_howMany at hf
  refine lv_aload_n hx hb dX7_howMany_0 rfl (lv_at hl 0 rfl) ?_
  refine mm_get C0 hP iw_X7 0 rfl rfl 1 (by decide) fl_X7_15 rfl dX7_howMany_1 ?_
  refine lv_iload_n hx hb dX7_howMany_4 rfl (lv_at hl 1 rfl) ?_
  obtain ⟨h_1, hf⟩ := mm_cks hf
  refine mm_iald C0 hP 2 rfl h_1 dX7_howMany_5 ?_
  refine lv_if_ne (tgt := 24) hx hb dX7_howMany_6 (by decide) (fun c_2 => ?_) (fun c_2 => ?_)
  · have hf := mm_in hf c_2
    exact tX7_howMany_24 hd C0 hA N  _ _ _ _ H locs ls hf hP hD hS (lv_sub hl [0, 1] rfl)
  · have hf := mm_ip hf c_2
    refine lv_aload_n hx hb dX7_howMany_9 rfl (lv_at hl 0 rfl) ?_
    refine mm_get C0 hP iw_X7 0 rfl rfl 2 (by decide) fl_X7_18 rfl dX7_howMany_10 ?_
    refine lv_iconst (v := -1) hx hb dX7_howMany_13 (by decide) ?_
    obtain ⟨w_3, hc_4, hf⟩ := mm_bd1s hf
    refine mm_callT (w2 := (wd_X7 cI cL cS cH a v_list v_found w_3)) (rest := []) C0 lk_X7_21 (ctJ7_fill_53178 (a := (fun k => a (k + 3))) (d := d - 1) (by omega) hc_4) (by omega) rfl hl.1 rfl (mm_cat rfl) dX7_howMany_14 hP hD hA hS [false, false, false, true] rfl rfl rfl rfl (fun H locs hP hD hS => ?_)
    refine W.eq (g2 := F0 m 17 ls []) rfl ?_
    refine lv_aload_n hx hb dX7_howMany_17 rfl (lv_at hl 0 rfl) ?_
    refine lv_iload_n hx hb dX7_howMany_18 rfl (lv_at hl 1 rfl) ?_
    refine lv_iconst (v := 0) hx hb dX7_howMany_19 (by decide) ?_
    refine lv_iconst (v := 0) hx hb dX7_howMany_20 (by decide) ?_
    obtain ⟨w_5, w_6, w_7, hc_8, hf⟩ := mm_bd3s hf
    refine mm_callVF (q0 := 0) (ci := 7) (rest := []) C0 lk_X7_43 (ctX7_grow (N := N) 9 (d - 1) (by omega) a _ _ _ _ _ _ _ _ _ hc_8) (by omega) rfl hl.1 rfl (mm_cat rfl) dX7_howMany_21 hP hD hA hS rfl rfl (fun H locs hP hD hS => ?_)
    refine W.eq (g2 := F0 m 24 ls []) rfl ?_
    exact tX7_howMany_24 hd C0 hA N  _ _ _ _ H locs ls hf hP hD hS (lv_sub hl [0, 1] rfl)

theorem nb_dX7_orderAt_0 : bls_w cX7_orderAt [(0, [28]), (1, [155, 0, 27]), (4, [28]), (5, [42]), (6, [27]), (7, [182, 0, 47]), (10, [162, 0, 18]), (13, [42]), (14, [180, 0, 11]), (17, [178, 0, 51]), (20, [27]), (21, [46])] := bls_of (by decide +kernel)
theorem dX7_orderAt_0 : decode cX7_orderAt 0 = .ok (.iload_n 2, 1) := op_28 nb_dX7_orderAt_0.1
set_option maxRecDepth 100000 in
theorem dX7_orderAt_1 : decode cX7_orderAt 1 = .ok (.ifCond .lt 27, 3) := (op_155 nb_dX7_orderAt_0.2.1).trans rfl
theorem dX7_orderAt_4 : decode cX7_orderAt 4 = .ok (.iload_n 2, 1) := op_28 nb_dX7_orderAt_0.2.2.1
theorem dX7_orderAt_5 : decode cX7_orderAt 5 = .ok (.aload_n 0, 1) := op_42 nb_dX7_orderAt_0.2.2.2.1
theorem dX7_orderAt_6 : decode cX7_orderAt 6 = .ok (.iload_n 1, 1) := op_27 nb_dX7_orderAt_0.2.2.2.2.1
set_option maxRecDepth 100000 in
theorem dX7_orderAt_7 : decode cX7_orderAt 7 = .ok (.invokevirtual 47, 3) := (op_182 nb_dX7_orderAt_0.2.2.2.2.2.1).trans rfl
set_option maxRecDepth 100000 in
theorem dX7_orderAt_10 : decode cX7_orderAt 10 = .ok (.if_icmp .ge 18, 3) := (op_162 nb_dX7_orderAt_0.2.2.2.2.2.2.1).trans rfl
theorem dX7_orderAt_13 : decode cX7_orderAt 13 = .ok (.aload_n 0, 1) := op_42 nb_dX7_orderAt_0.2.2.2.2.2.2.2.1
set_option maxRecDepth 100000 in
theorem dX7_orderAt_14 : decode cX7_orderAt 14 = .ok (.getfield 11, 3) := (op_180 nb_dX7_orderAt_0.2.2.2.2.2.2.2.2.1).trans rfl
set_option maxRecDepth 100000 in
theorem dX7_orderAt_17 : decode cX7_orderAt 17 = .ok (.getstatic 51, 3) := (op_178 nb_dX7_orderAt_0.2.2.2.2.2.2.2.2.2.1).trans rfl
theorem dX7_orderAt_20 : decode cX7_orderAt 20 = .ok (.iload_n 1, 1) := op_27 nb_dX7_orderAt_0.2.2.2.2.2.2.2.2.2.2.1
theorem dX7_orderAt_21 : decode cX7_orderAt 21 = .ok (.iaload, 1) := op_46 nb_dX7_orderAt_0.2.2.2.2.2.2.2.2.2.2.2.1
theorem nb_dX7_orderAt_22 : bls_w cX7_orderAt [(22, [28]), (23, [96]), (24, [46]), (25, [167, 0, 4]), (28, [2]), (29, [172])] := bls_of (by decide +kernel)
theorem dX7_orderAt_22 : decode cX7_orderAt 22 = .ok (.iload_n 2, 1) := op_28 nb_dX7_orderAt_22.1
theorem dX7_orderAt_23 : decode cX7_orderAt 23 = .ok (.iadd, 1) := op_96 nb_dX7_orderAt_22.2.1
theorem dX7_orderAt_24 : decode cX7_orderAt 24 = .ok (.iaload, 1) := op_46 nb_dX7_orderAt_22.2.2.1
set_option maxRecDepth 100000 in
theorem dX7_orderAt_25 : decode cX7_orderAt 25 = .ok (.goto 4, 3) := (op_167 nb_dX7_orderAt_22.2.2.2.1).trans rfl
theorem dX7_orderAt_28 : decode cX7_orderAt 28 = .ok (.iconst (-1), 1) := op_2 nb_dX7_orderAt_22.2.2.2.2.1
theorem dX7_orderAt_29 : decode cX7_orderAt 29 = .ok (.ireturn, 1) := op_172 nb_dX7_orderAt_22.2.2.2.2.2.1
def fX7_orderAt (N : Nat) (x1 : Int32) (x2 : Int32) (v_list : List Int32) (v_found : List Int32) (v_at : List Int32) : Option (Int32 × List Int32 × List Int32 × List Int32) :=
    if x2 < 0 then
    (some ((-1 : Int32), v_list, v_found, v_at))
    else (mm_bd4 (fX7_howMany N x1 v_list v_found v_at) (fun (r_2 : Int32) (w_3 : List Int32) (w_4 : List Int32) (w_5 : List Int32) =>
    if r_2 ≤ x2 then
    (some ((-1 : Int32), w_3, w_4, w_5))
    else (mm_ck (mm_inb x1 mm_START.length) (mm_ck (mm_inb ((mm_ig mm_START x1) + x2) w_3.length) (some ((mm_ig w_3 ((mm_ig mm_START x1) + x2)), w_3, w_4, w_5))))))

set_option maxHeartbeats 4000000 in
set_option maxRecDepth 100000 in
theorem ctX7_orderAt {l : Launch} {D : va_G} {cI cL cS cH : ClassId} {a : Nat → Nat} {x1 : Int32} {x2 : Int32} {v_list : List Int32} {v_found : List Int32} {v_at : List Int32} {r : Int32} {w_list : List Int32} {w_found : List Int32} {w_at : List Int32} {N d : Nat} (hd : 14 ≤ d) (hf : fX7_orderAt N x1 x2 v_list v_found v_at = some (r, w_list, w_found, w_at)) : mm_Ct l yX7_orderAt cX7_orderAt 3 (some .int) d D (mm_T cI cL cS cH) [.ref (a 0), .int x1, .int x2] (wd_X7 cI cL cS cH a v_list v_found v_at) (wd_X7 cI cL cS cH a w_list w_found w_at) (some (.int r)) := by
  refine mm_of (by decide) (Nat.le_of_ble_eq_true rfl) ?_
  intro p e s m args below meth c A H locs ls C0 hP hD hA hS hl
  have C0 : mm_Cx p s m args meth c RX7 cX7_orderAt 3 (some .int) D (mm_T cI cL cS cH) A := C0
  obtain ⟨hx, hb, hml, hown, hts, hr, hlocks, hK, hSt⟩ := id C0
  obtain ⟨⟨t_START, hZ_START, hT_START⟩, ⟨t_ABOVE, hZ_ABOVE, hT_ABOVE⟩, ⟨t_OWN, hZ_OWN, hT_OWN⟩, hNest⟩ := hSt
  have hl : lv_has ls 3 [(0, .ref (a 0)), (1, .int x1), (2, .int x2)] := hl
  unfold fX7_orderAt at hf
  refine lv_iload_n hx hb dX7_orderAt_0 rfl (lv_at hl 2 rfl) ?_
  refine lv_if_lt (tgt := 28) hx hb dX7_orderAt_1 (by decide) (fun c_1 => ?_) (fun c_1 => ?_)
  · have hf := mm_ip hf c_1
    refine lv_iconst (v := -1) hx hb dX7_orderAt_28 (by decide) ?_
    apply mm_sub4 hf
    exact mm_iret C0 hP hD hS dX7_orderAt_29
  · have hf := mm_in hf c_1
    refine lv_iload_n hx hb dX7_orderAt_4 rfl (lv_at hl 2 rfl) ?_
    refine lv_aload_n hx hb dX7_orderAt_5 rfl (lv_at hl 0 rfl) ?_
    refine lv_iload_n hx hb dX7_orderAt_6 rfl (lv_at hl 1 rfl) ?_
    obtain ⟨r_2, w_3, w_4, w_5, hc_6, hf⟩ := mm_bd4s hf
    refine mm_callVF (q0 := 0) (ci := 7) (rest := [.int x2]) C0 lk_X7_47 (ctX7_howMany (a := a) (d := d - 1) (by omega) hc_6) (by omega) rfl hl.1 rfl (mm_cat rfl) dX7_orderAt_7 hP hD hA hS rfl rfl (fun H locs hP hD hS => ?_)
    refine W.eq (g2 := F0 m 10 ls [.int r_2, .int x2]) rfl ?_
    refine lv_icmp_ge (tgt := 28) hx hb dX7_orderAt_10 (by decide) (fun c_7 => ?_) (fun c_7 => ?_)
    · have hf := mm_ip hf c_7
      refine lv_iconst (v := -1) hx hb dX7_orderAt_28 (by decide) ?_
      apply mm_sub4 hf
      exact mm_iret C0 hP hD hS dX7_orderAt_29
    · have hf := mm_in hf c_7
      refine lv_aload_n hx hb dX7_orderAt_13 rfl (lv_at hl 0 rfl) ?_
      refine mm_get C0 hP iw_X7 0 rfl rfl 0 (by decide) fl_X7_11 rfl dX7_orderAt_14 ?_
      refine va_gets hx hb hZ_START hS hown (hts _ fl_X7_51) (fun _ h9 => h9) dX7_orderAt_17 ?_
      refine lv_iload_n hx hb dX7_orderAt_20 rfl (lv_at hl 1 rfl) ?_
      obtain ⟨h_8, hf⟩ := mm_cks hf
      refine va_ti (v := .int (mm_ig mm_START x1)) hx hb hT_START hS (mm_inbs h_8).1 rfl dX7_orderAt_21 ?_
      refine lv_iload_n hx hb dX7_orderAt_22 rfl (lv_at hl 2 rfl) ?_
      refine lv_iadd hx hb dX7_orderAt_23 ?_
      obtain ⟨h_9, hf⟩ := mm_cks hf
      refine mm_iald C0 hP 1 rfl h_9 dX7_orderAt_24 ?_
      refine lv_goto (tgt := 29) hx hb dX7_orderAt_25 (by decide) ?_
      apply mm_sub4 hf
      exact mm_iret C0 hP hD hS dX7_orderAt_29

theorem nb_dX7_isBent_0 : bls_w cX7_isBent [(0, [42]), (1, [27]), (2, [42]), (3, [180, 0, 11]), (6, [178, 0, 51]), (9, [27]), (10, [46]), (11, [28]), (12, [96]), (13, [46]), (14, [182, 0, 58]), (17, [153, 0, 16])] := bls_of (by decide +kernel)
theorem dX7_isBent_0 : decode cX7_isBent 0 = .ok (.aload_n 0, 1) := op_42 nb_dX7_isBent_0.1
theorem dX7_isBent_1 : decode cX7_isBent 1 = .ok (.iload_n 1, 1) := op_27 nb_dX7_isBent_0.2.1
theorem dX7_isBent_2 : decode cX7_isBent 2 = .ok (.aload_n 0, 1) := op_42 nb_dX7_isBent_0.2.2.1
set_option maxRecDepth 100000 in
theorem dX7_isBent_3 : decode cX7_isBent 3 = .ok (.getfield 11, 3) := (op_180 nb_dX7_isBent_0.2.2.2.1).trans rfl
set_option maxRecDepth 100000 in
theorem dX7_isBent_6 : decode cX7_isBent 6 = .ok (.getstatic 51, 3) := (op_178 nb_dX7_isBent_0.2.2.2.2.1).trans rfl
theorem dX7_isBent_9 : decode cX7_isBent 9 = .ok (.iload_n 1, 1) := op_27 nb_dX7_isBent_0.2.2.2.2.2.1
theorem dX7_isBent_10 : decode cX7_isBent 10 = .ok (.iaload, 1) := op_46 nb_dX7_isBent_0.2.2.2.2.2.2.1
theorem dX7_isBent_11 : decode cX7_isBent 11 = .ok (.iload_n 2, 1) := op_28 nb_dX7_isBent_0.2.2.2.2.2.2.2.1
theorem dX7_isBent_12 : decode cX7_isBent 12 = .ok (.iadd, 1) := op_96 nb_dX7_isBent_0.2.2.2.2.2.2.2.2.1
theorem dX7_isBent_13 : decode cX7_isBent 13 = .ok (.iaload, 1) := op_46 nb_dX7_isBent_0.2.2.2.2.2.2.2.2.2.1
set_option maxRecDepth 100000 in
theorem dX7_isBent_14 : decode cX7_isBent 14 = .ok (.invokevirtual 58, 3) := (op_182 nb_dX7_isBent_0.2.2.2.2.2.2.2.2.2.2.1).trans rfl
set_option maxRecDepth 100000 in
theorem dX7_isBent_17 : decode cX7_isBent 17 = .ok (.ifCond .eq 16, 3) := (op_153 nb_dX7_isBent_0.2.2.2.2.2.2.2.2.2.2.2.1).trans rfl
theorem nb_dX7_isBent_20 : bls_w cX7_isBent [(20, [42]), (21, [27]), (22, [182, 0, 61]), (25, [29]), (26, [160, 0, 7]), (29, [4]), (30, [167, 0, 4]), (33, [3]), (34, [172])] := bls_of (by decide +kernel)
theorem dX7_isBent_20 : decode cX7_isBent 20 = .ok (.aload_n 0, 1) := op_42 nb_dX7_isBent_20.1
theorem dX7_isBent_21 : decode cX7_isBent 21 = .ok (.iload_n 1, 1) := op_27 nb_dX7_isBent_20.2.1
set_option maxRecDepth 100000 in
theorem dX7_isBent_22 : decode cX7_isBent 22 = .ok (.invokevirtual 61, 3) := (op_182 nb_dX7_isBent_20.2.2.1).trans rfl
theorem dX7_isBent_25 : decode cX7_isBent 25 = .ok (.iload_n 3, 1) := op_29 nb_dX7_isBent_20.2.2.2.1
set_option maxRecDepth 100000 in
theorem dX7_isBent_26 : decode cX7_isBent 26 = .ok (.if_icmp .ne 7, 3) := (op_160 nb_dX7_isBent_20.2.2.2.2.1).trans rfl
theorem dX7_isBent_29 : decode cX7_isBent 29 = .ok (.iconst 1, 1) := op_4 nb_dX7_isBent_20.2.2.2.2.2.1
set_option maxRecDepth 100000 in
theorem dX7_isBent_30 : decode cX7_isBent 30 = .ok (.goto 4, 3) := (op_167 nb_dX7_isBent_20.2.2.2.2.2.2.1).trans rfl
theorem dX7_isBent_33 : decode cX7_isBent 33 = .ok (.iconst 0, 1) := op_3 nb_dX7_isBent_20.2.2.2.2.2.2.2.1
theorem dX7_isBent_34 : decode cX7_isBent 34 = .ok (.ireturn, 1) := op_172 nb_dX7_isBent_20.2.2.2.2.2.2.2.2.1
def fX7_isBent (N : Nat) (x1 : Int32) (x2 : Int32) (x3 : Int32) (v_list : List Int32) (v_at : List Int32) : Option (Bool × List Int32) :=
    mm_ck (mm_inb x1 mm_START.length) (mm_ck (mm_inb ((mm_ig mm_START x1) + x2) v_list.length) (mm_bd2 (fX7_lay N x1 (mm_ig v_list ((mm_ig mm_START x1) + x2)) v_at) (fun (r_3 : Bool) (w_4 : List Int32) =>
    if r_3 = false then
    (some (false, w_4))
    else (mm_bd1 (fX7_bits N x1 w_4) (fun (r_7 : Int32) =>
    if r_7 = x3 then
    (some (true, w_4))
    else (some (false, w_4)))))))

set_option maxHeartbeats 4000000 in
set_option maxRecDepth 100000 in
theorem ctX7_isBent {l : Launch} {D : va_G} {cI cL cS cH : ClassId} {a : Nat → Nat} {x1 : Int32} {x2 : Int32} {x3 : Int32} {v_list : List Int32} {v_found : List Int32} {v_at : List Int32} {r : Bool} {w_at : List Int32} {N d : Nat} (hd : 3 ≤ d) (hf : fX7_isBent N x1 x2 x3 v_list v_at = some (r, w_at)) : mm_Ct l yX7_isBent cX7_isBent 4 (some .boolean) d D (mm_T cI cL cS cH) [.ref (a 0), .int x1, .int x2, .int x3] (wd_X7 cI cL cS cH a v_list v_found v_at) (wd_X7 cI cL cS cH a v_list v_found w_at) (some (.int (mm_b r))) := by
  refine mm_of (by decide) (Nat.le_of_ble_eq_true rfl) ?_
  intro p e s m args below meth c A H locs ls C0 hP hD hA hS hl
  have C0 : mm_Cx p s m args meth c RX7 cX7_isBent 4 (some .boolean) D (mm_T cI cL cS cH) A := C0
  obtain ⟨hx, hb, hml, hown, hts, hr, hlocks, hK, hSt⟩ := id C0
  obtain ⟨⟨t_START, hZ_START, hT_START⟩, ⟨t_ABOVE, hZ_ABOVE, hT_ABOVE⟩, ⟨t_OWN, hZ_OWN, hT_OWN⟩, hNest⟩ := hSt
  have hl : lv_has ls 4 [(0, .ref (a 0)), (1, .int x1), (2, .int x2), (3, .int x3)] := hl
  unfold fX7_isBent at hf
  refine lv_aload_n hx hb dX7_isBent_0 rfl (lv_at hl 0 rfl) ?_
  refine lv_iload_n hx hb dX7_isBent_1 rfl (lv_at hl 1 rfl) ?_
  refine lv_aload_n hx hb dX7_isBent_2 rfl (lv_at hl 0 rfl) ?_
  refine mm_get C0 hP iw_X7 0 rfl rfl 0 (by decide) fl_X7_11 rfl dX7_isBent_3 ?_
  refine va_gets hx hb hZ_START hS hown (hts _ fl_X7_51) (fun _ h9 => h9) dX7_isBent_6 ?_
  refine lv_iload_n hx hb dX7_isBent_9 rfl (lv_at hl 1 rfl) ?_
  obtain ⟨h_1, hf⟩ := mm_cks hf
  refine va_ti (v := .int (mm_ig mm_START x1)) hx hb hT_START hS (mm_inbs h_1).1 rfl dX7_isBent_10 ?_
  refine lv_iload_n hx hb dX7_isBent_11 rfl (lv_at hl 2 rfl) ?_
  refine lv_iadd hx hb dX7_isBent_12 ?_
  obtain ⟨h_2, hf⟩ := mm_cks hf
  refine mm_iald C0 hP 1 rfl h_2 dX7_isBent_13 ?_
  obtain ⟨r_3, w_4, hc_5, hf⟩ := mm_bd2s hf
  refine mm_callVF (q0 := 0) (ci := 7) (rest := []) C0 lk_X7_58 (ctX7_lay (a := a) (d := d - 1) (by omega) hc_5) (by omega) rfl hl.1 rfl (mm_cat rfl) dX7_isBent_14 hP hD hA hS rfl rfl (fun H locs hP hD hS => ?_)
  refine W.eq (g2 := F0 m 17 ls [.int (mm_b r_3)]) rfl ?_
  refine lv_if_eq (tgt := 33) hx hb dX7_isBent_17 (by decide) (fun c_6 => ?_) (fun c_6 => ?_)
  · have hf := mm_ip hf (mm_b0 c_6)
    refine lv_iconst (v := 0) hx hb dX7_isBent_33 (by decide) ?_
    apply mm_sub2 hf
    exact mm_zret (v := false) C0 hP hD hS dX7_isBent_34 (by decide)
  · have hf := mm_in hf (mm_b1 c_6)
    refine lv_aload_n hx hb dX7_isBent_20 rfl (lv_at hl 0 rfl) ?_
    refine lv_iload_n hx hb dX7_isBent_21 rfl (lv_at hl 1 rfl) ?_
    obtain ⟨r_7, hc_8, hf⟩ := mm_bd1s hf
    refine mm_callVF (q0 := 0) (ci := 7) (rest := []) C0 lk_X7_61 (ctX7_bits (a := a) (d := d - 1) (by omega) hc_8) (by omega) rfl hl.1 rfl (mm_cat rfl) dX7_isBent_22 hP hD hA hS rfl rfl (fun H locs hP hD hS => ?_)
    refine W.eq (g2 := F0 m 25 ls [.int r_7]) rfl ?_
    refine lv_iload_n hx hb dX7_isBent_25 rfl (lv_at hl 3 rfl) ?_
    refine lv_icmp_ne (tgt := 33) hx hb dX7_isBent_26 (by decide) (fun c_9 => ?_) (fun c_9 => ?_)
    · have hf := mm_in hf c_9
      refine lv_iconst (v := 0) hx hb dX7_isBent_33 (by decide) ?_
      apply mm_sub2 hf
      exact mm_zret (v := false) C0 hP hD hS dX7_isBent_34 (by decide)
    · have hf := mm_ip hf c_9
      refine lv_iconst (v := 1) hx hb dX7_isBent_29 (by decide) ?_
      refine lv_goto (tgt := 34) hx hb dX7_isBent_30 (by decide) ?_
      apply mm_sub2 hf
      exact mm_zret (v := true) C0 hP hD hS dX7_isBent_34 (by decide)

theorem nb_dX7_howManyBent_0 : bls_w cX7_howManyBent [(0, [3]), (1, [62]), (2, [42]), (3, [27]), (4, [182, 0, 47]), (7, [54, 4]), (9, [3]), (10, [54, 5]), (12, [21, 5]), (14, [21, 4]), (16, [162, 0, 23]), (19, [42])] := bls_of (by decide +kernel)
theorem dX7_howManyBent_0 : decode cX7_howManyBent 0 = .ok (.iconst 0, 1) := op_3 nb_dX7_howManyBent_0.1
theorem dX7_howManyBent_1 : decode cX7_howManyBent 1 = .ok (.istore_n 3, 1) := op_62 nb_dX7_howManyBent_0.2.1
theorem dX7_howManyBent_2 : decode cX7_howManyBent 2 = .ok (.aload_n 0, 1) := op_42 nb_dX7_howManyBent_0.2.2.1
theorem dX7_howManyBent_3 : decode cX7_howManyBent 3 = .ok (.iload_n 1, 1) := op_27 nb_dX7_howManyBent_0.2.2.2.1
set_option maxRecDepth 100000 in
theorem dX7_howManyBent_4 : decode cX7_howManyBent 4 = .ok (.invokevirtual 47, 3) := (op_182 nb_dX7_howManyBent_0.2.2.2.2.1).trans rfl
set_option maxRecDepth 100000 in
theorem dX7_howManyBent_7 : decode cX7_howManyBent 7 = .ok (.istore 4, 2) := (op_54 nb_dX7_howManyBent_0.2.2.2.2.2.1).trans rfl
theorem dX7_howManyBent_9 : decode cX7_howManyBent 9 = .ok (.iconst 0, 1) := op_3 nb_dX7_howManyBent_0.2.2.2.2.2.2.1
set_option maxRecDepth 100000 in
theorem dX7_howManyBent_10 : decode cX7_howManyBent 10 = .ok (.istore 5, 2) := (op_54 nb_dX7_howManyBent_0.2.2.2.2.2.2.2.1).trans rfl
set_option maxRecDepth 100000 in
theorem dX7_howManyBent_12 : decode cX7_howManyBent 12 = .ok (.iload 5, 2) := (op_21 nb_dX7_howManyBent_0.2.2.2.2.2.2.2.2.1).trans rfl
set_option maxRecDepth 100000 in
theorem dX7_howManyBent_14 : decode cX7_howManyBent 14 = .ok (.iload 4, 2) := (op_21 nb_dX7_howManyBent_0.2.2.2.2.2.2.2.2.2.1).trans rfl
set_option maxRecDepth 100000 in
theorem dX7_howManyBent_16 : decode cX7_howManyBent 16 = .ok (.if_icmp .ge 23, 3) := (op_162 nb_dX7_howManyBent_0.2.2.2.2.2.2.2.2.2.2.1).trans rfl
theorem dX7_howManyBent_19 : decode cX7_howManyBent 19 = .ok (.aload_n 0, 1) := op_42 nb_dX7_howManyBent_0.2.2.2.2.2.2.2.2.2.2.2.1
theorem nb_dX7_howManyBent_20 : bls_w cX7_howManyBent [(20, [27]), (21, [21, 5]), (23, [28]), (24, [182, 0, 54]), (27, [153, 0, 6]), (30, [132, 3, 1]), (33, [132, 5, 1]), (36, [167, 255, 232]), (39, [29]), (40, [172])] := bls_of (by decide +kernel)
theorem dX7_howManyBent_20 : decode cX7_howManyBent 20 = .ok (.iload_n 1, 1) := op_27 nb_dX7_howManyBent_20.1
set_option maxRecDepth 100000 in
theorem dX7_howManyBent_21 : decode cX7_howManyBent 21 = .ok (.iload 5, 2) := (op_21 nb_dX7_howManyBent_20.2.1).trans rfl
theorem dX7_howManyBent_23 : decode cX7_howManyBent 23 = .ok (.iload_n 2, 1) := op_28 nb_dX7_howManyBent_20.2.2.1
set_option maxRecDepth 100000 in
theorem dX7_howManyBent_24 : decode cX7_howManyBent 24 = .ok (.invokevirtual 54, 3) := (op_182 nb_dX7_howManyBent_20.2.2.2.1).trans rfl
set_option maxRecDepth 100000 in
theorem dX7_howManyBent_27 : decode cX7_howManyBent 27 = .ok (.ifCond .eq 6, 3) := (op_153 nb_dX7_howManyBent_20.2.2.2.2.1).trans rfl
set_option maxRecDepth 100000 in
theorem dX7_howManyBent_30 : decode cX7_howManyBent 30 = .ok (.iinc 3 1, 3) := (op_132 nb_dX7_howManyBent_20.2.2.2.2.2.1).trans rfl
set_option maxRecDepth 100000 in
theorem dX7_howManyBent_33 : decode cX7_howManyBent 33 = .ok (.iinc 5 1, 3) := (op_132 nb_dX7_howManyBent_20.2.2.2.2.2.2.1).trans rfl
set_option maxRecDepth 100000 in
theorem dX7_howManyBent_36 : decode cX7_howManyBent 36 = .ok (.goto (-24), 3) := (op_167 nb_dX7_howManyBent_20.2.2.2.2.2.2.2.1).trans rfl
theorem dX7_howManyBent_39 : decode cX7_howManyBent 39 = .ok (.iload_n 3, 1) := op_29 nb_dX7_howManyBent_20.2.2.2.2.2.2.2.2.1
theorem dX7_howManyBent_40 : decode cX7_howManyBent 40 = .ok (.ireturn, 1) := op_172 nb_dX7_howManyBent_20.2.2.2.2.2.2.2.2.2.1
def fX7_howManyBent_33 (N : Nat) (k_12 : Int32 → Int32 → Int32 → Int32 → Int32 → List Int32 → List Int32 → List Int32 → Option (Int32 × List Int32 × List Int32 × List Int32)) (x1 : Int32) (x2 : Int32) (x3 : Int32) (x4 : Int32) (x5 : Int32) (v_list : List Int32) (v_found : List Int32) (v_at : List Int32) : Option (Int32 × List Int32 × List Int32 × List Int32) :=
    mm_nm (x5 + (1 : Int32)) (fun (y_12 : Int32) =>
    k_12 x1 x2 x3 x4 y_12 v_list v_found v_at)

set_option maxHeartbeats 4000000 in
set_option maxRecDepth 100000 in
theorem tX7_howManyBent_33 {p : Program} {l : Launch} {e : Env} {s : State} {m : MethodId} {args : Array Value} {below : List Frame} {meth : Method} {c : Code} {D : va_G} {cI cL cS cH : ClassId} {A : Nat → Prop} {d : Nat} {a : Nat → Nat} (hd : 14 ≤ d) (C0 : mm_Cx p s m args meth c RX7 cX7_howManyBent 6 (some .int) D (mm_T cI cL cS cH) A) (hA : ∀ q, s.heap.size ≤ q → A q)  {r : Int32} {w_list : List Int32} {w_found : List Int32} {w_at : List Int32} (N : Nat) {k_12 : Int32 → Int32 → Int32 → Int32 → Int32 → List Int32 → List Int32 → List Int32 → Option (Int32 × List Int32 × List Int32 × List Int32)} (hk_12 : ∀ (x1 : Int32) (x2 : Int32) (x3 : Int32) (x4 : Int32) (x5 : Int32) (v_list : List Int32) (v_found : List Int32) (v_at : List Int32) (H : Heap) (locs : List Loc) (ls : Array Slot), k_12 x1 x2 x3 x4 x5 v_list v_found v_at = some (r, w_list, w_found, w_at) → va_P D mm_cl (wd_X7 cI cL cS cH a v_list v_found v_at) H → va_D A (wd_X7 cI cL cS cH a v_list v_found v_at) → va_S A s.heap H locs → lv_has ls 6 [(0, .ref (a 0)), (1, .int x1), (2, .int x2), (3, .int x3), (4, .int x4), (5, .int x5)] → W p l e (mm_rr d) s m args below meth c H locs 0 0 (mm_Z below D A (wd_X7 cI cL cS cH a w_list w_found w_at) (some (.int r)) args s) (F0 m 12 ls [])) : ∀ (x1 : Int32) (x2 : Int32) (x3 : Int32) (x4 : Int32) (x5 : Int32) (v_list : List Int32) (v_found : List Int32) (v_at : List Int32) (H : Heap) (locs : List Loc) (ls : Array Slot), fX7_howManyBent_33 N k_12 x1 x2 x3 x4 x5 v_list v_found v_at = some (r, w_list, w_found, w_at) → va_P D mm_cl (wd_X7 cI cL cS cH a v_list v_found v_at) H → va_D A (wd_X7 cI cL cS cH a v_list v_found v_at) → va_S A s.heap H locs → lv_has ls 6 [(0, .ref (a 0)), (1, .int x1), (2, .int x2), (3, .int x3), (4, .int x4), (5, .int x5)] → W p l e (mm_rr d) s m args below meth c H locs 0 0 (mm_Z below D A (wd_X7 cI cL cS cH a w_list w_found w_at) (some (.int r)) args s) (F0 m 33 ls []) := by
  obtain ⟨hx, hb, hml, hown, hts, hr, hlocks, hK, hSt⟩ := id C0
  intro x1 x2 x3 x4 x5 v_list v_found v_at H locs ls hf hP hD hS hl
  unfold fX7_howManyBent_33 at hf
  obtain ⟨y_12, ey_12⟩ : ∃ z : Int32, z = x5 + (1 : Int32) := ⟨_, rfl⟩
  have hf := mm_nms hf ey_12
  refine lv_iinc (v := y_12) (lv' := [(5, .int y_12), (0, .ref (a 0)), (1, .int x1), (2, .int x2), (3, .int x3), (4, .int x4)]) hx hb dX7_howManyBent_33 hl (k := 5) rfl (by rw [ey_12]; rfl) (by decide) rfl (fun ls hl => ?_)
  refine lv_goto (tgt := 12) hx hb dX7_howManyBent_36 (by decide) ?_
  exact hk_12 _ _ _ _ _ _ _ _ H locs ls hf hP hD hS (lv_sub hl [1, 2, 3, 4, 5, 0] rfl)

def fX7_howManyBent_12 (N : Nat)  : Nat → Int32 → Int32 → Int32 → Int32 → Int32 → List Int32 → List Int32 → List Int32 → Option (Int32 × List Int32 × List Int32 × List Int32)
  | 0 => fun _ _ _ _ _ _ _ _ => none
  | n + 1 => fun x1 x2 x3 x4 x5 v_list v_found v_at =>
    if x4 ≤ x5 then
    (some (x3, v_list, v_found, v_at))
    else (mm_bd2 (fX7_isBent N x1 x5 x2 v_list v_at) (fun (r_7 : Bool) (w_8 : List Int32) =>
    if r_7 = false then
    (fX7_howManyBent_33 N (fX7_howManyBent_12 N n) x1 x2 x3 x4 x5 v_list v_found w_8)
    else (mm_nm (x3 + (1 : Int32)) (fun (y_11 : Int32) =>
    fX7_howManyBent_33 N (fX7_howManyBent_12 N n) x1 x2 y_11 x4 x5 v_list v_found w_8))))

set_option maxHeartbeats 4000000 in
set_option maxRecDepth 100000 in
theorem tX7_howManyBent_12 {p : Program} {l : Launch} {e : Env} {s : State} {m : MethodId} {args : Array Value} {below : List Frame} {meth : Method} {c : Code} {D : va_G} {cI cL cS cH : ClassId} {A : Nat → Prop} {d : Nat} {a : Nat → Nat} (hd : 14 ≤ d) (C0 : mm_Cx p s m args meth c RX7 cX7_howManyBent 6 (some .int) D (mm_T cI cL cS cH) A) (hA : ∀ q, s.heap.size ≤ q → A q)  {r : Int32} {w_list : List Int32} {w_found : List Int32} {w_at : List Int32} (N : Nat)  : ∀ (n : Nat), ∀ (x1 : Int32) (x2 : Int32) (x3 : Int32) (x4 : Int32) (x5 : Int32) (v_list : List Int32) (v_found : List Int32) (v_at : List Int32) (H : Heap) (locs : List Loc) (ls : Array Slot), fX7_howManyBent_12 N n x1 x2 x3 x4 x5 v_list v_found v_at = some (r, w_list, w_found, w_at) → va_P D mm_cl (wd_X7 cI cL cS cH a v_list v_found v_at) H → va_D A (wd_X7 cI cL cS cH a v_list v_found v_at) → va_S A s.heap H locs → lv_has ls 6 [(0, .ref (a 0)), (1, .int x1), (2, .int x2), (3, .int x3), (4, .int x4), (5, .int x5)] → W p l e (mm_rr d) s m args below meth c H locs 0 0 (mm_Z below D A (wd_X7 cI cL cS cH a w_list w_found w_at) (some (.int r)) args s) (F0 m 12 ls []) := by
  obtain ⟨hx, hb, hml, hown, hts, hr, hlocks, hK, hSt⟩ := id C0
  intro n
  induction n with
  | zero =>
    intro x1 x2 x3 x4 x5 v_list v_found v_at H locs ls hf
    cases (show none = some _ from hf)
  | succ n ih =>
    intro x1 x2 x3 x4 x5 v_list v_found v_at H locs ls hf hP hD hS hl
    unfold fX7_howManyBent_12 at hf
    refine lv_iload hx hb dX7_howManyBent_12 (lv_at hl 5 rfl) ?_
    refine lv_iload hx hb dX7_howManyBent_14 (lv_at hl 4 rfl) ?_
    refine lv_icmp_ge (tgt := 39) hx hb dX7_howManyBent_16 (by decide) (fun c_6 => ?_) (fun c_6 => ?_)
    · have hf := mm_ip hf c_6
      refine lv_iload_n hx hb dX7_howManyBent_39 rfl (lv_at hl 3 rfl) ?_
      apply mm_sub4 hf
      exact mm_iret C0 hP hD hS dX7_howManyBent_40
    · have hf := mm_in hf c_6
      refine lv_aload_n hx hb dX7_howManyBent_19 rfl (lv_at hl 0 rfl) ?_
      refine lv_iload_n hx hb dX7_howManyBent_20 rfl (lv_at hl 1 rfl) ?_
      refine lv_iload hx hb dX7_howManyBent_21 (lv_at hl 5 rfl) ?_
      refine lv_iload_n hx hb dX7_howManyBent_23 rfl (lv_at hl 2 rfl) ?_
      obtain ⟨r_7, w_8, hc_9, hf⟩ := mm_bd2s hf
      refine mm_callVF (q0 := 0) (ci := 7) (rest := []) C0 lk_X7_54 (ctX7_isBent (a := a) (d := d - 1) (by omega) hc_9) (by omega) rfl hl.1 rfl (mm_cat rfl) dX7_howManyBent_24 hP hD hA hS rfl rfl (fun H locs hP hD hS => ?_)
      refine W.eq (g2 := F0 m 27 ls [.int (mm_b r_7)]) rfl ?_
      refine lv_if_eq (tgt := 33) hx hb dX7_howManyBent_27 (by decide) (fun c_10 => ?_) (fun c_10 => ?_)
      · have hf := mm_ip hf (mm_b0 c_10)
        exact tX7_howManyBent_33 hd C0 hA N ih _ _ _ _ _ _ _ _ H locs ls hf hP hD hS (lv_sub hl [0, 1, 2, 3, 4, 5] rfl)
      · have hf := mm_in hf (mm_b1 c_10)
        obtain ⟨y_11, ey_11⟩ : ∃ z : Int32, z = x3 + (1 : Int32) := ⟨_, rfl⟩
        have hf := mm_nms hf ey_11
        refine lv_iinc (v := y_11) (lv' := [(3, .int y_11), (0, .ref (a 0)), (1, .int x1), (2, .int x2), (4, .int x4), (5, .int x5)]) hx hb dX7_howManyBent_30 hl (k := 3) rfl (by rw [ey_11]; rfl) (by decide) rfl (fun ls hl => ?_)
        exact tX7_howManyBent_33 hd C0 hA N ih _ _ _ _ _ _ _ _ H locs ls hf hP hD hS (lv_sub hl [1, 2, 3, 0, 4, 5] rfl)

def fX7_howManyBent (N : Nat) (x1 : Int32) (x2 : Int32) (v_list : List Int32) (v_found : List Int32) (v_at : List Int32) : Option (Int32 × List Int32 × List Int32 × List Int32) :=
    mm_bd4 (fX7_howMany N x1 v_list v_found v_at) (fun (r_1 : Int32) (w_2 : List Int32) (w_3 : List Int32) (w_4 : List Int32) =>
    fX7_howManyBent_12 N N x1 x2 (0 : Int32) r_1 (0 : Int32) w_2 w_3 w_4)

set_option maxHeartbeats 4000000 in
set_option maxRecDepth 100000 in
theorem ctX7_howManyBent {l : Launch} {D : va_G} {cI cL cS cH : ClassId} {a : Nat → Nat} {x1 : Int32} {x2 : Int32} {v_list : List Int32} {v_found : List Int32} {v_at : List Int32} {r : Int32} {w_list : List Int32} {w_found : List Int32} {w_at : List Int32} {N d : Nat} (hd : 14 ≤ d) (hf : fX7_howManyBent N x1 x2 v_list v_found v_at = some (r, w_list, w_found, w_at)) : mm_Ct l yX7_howManyBent cX7_howManyBent 6 (some .int) d D (mm_T cI cL cS cH) [.ref (a 0), .int x1, .int x2] (wd_X7 cI cL cS cH a v_list v_found v_at) (wd_X7 cI cL cS cH a w_list w_found w_at) (some (.int r)) := by
  refine mm_of (by decide) (Nat.le_of_ble_eq_true rfl) ?_
  intro p e s m args below meth c A H locs ls C0 hP hD hA hS hl
  have C0 : mm_Cx p s m args meth c RX7 cX7_howManyBent 6 (some .int) D (mm_T cI cL cS cH) A := C0
  obtain ⟨hx, hb, hml, hown, hts, hr, hlocks, hK, hSt⟩ := id C0
  have hl : lv_has ls 6 [(0, .ref (a 0)), (1, .int x1), (2, .int x2)] := hl
  unfold fX7_howManyBent at hf
  refine lv_iconst (v := 0) hx hb dX7_howManyBent_0 (by decide) ?_
  refine lv_istore_n (lv' := [(3, .int (0 : Int32)), (0, .ref (a 0)), (1, .int x1), (2, .int x2)]) hx hb dX7_howManyBent_1 rfl hl (by decide) rfl (fun ls hl => ?_)
  refine lv_aload_n hx hb dX7_howManyBent_2 rfl (lv_at hl 1 rfl) ?_
  refine lv_iload_n hx hb dX7_howManyBent_3 rfl (lv_at hl 2 rfl) ?_
  obtain ⟨r_1, w_2, w_3, w_4, hc_5, hf⟩ := mm_bd4s hf
  refine mm_callVF (q0 := 0) (ci := 7) (rest := []) C0 lk_X7_47 (ctX7_howMany (a := a) (d := d - 1) (by omega) hc_5) (by omega) rfl hl.1 rfl (mm_cat rfl) dX7_howManyBent_4 hP hD hA hS rfl rfl (fun H locs hP hD hS => ?_)
  refine W.eq (g2 := F0 m 7 ls [.int r_1]) rfl ?_
  refine lv_istore (lv' := [(4, .int r_1), (3, .int (0 : Int32)), (0, .ref (a 0)), (1, .int x1), (2, .int x2)]) hx hb dX7_howManyBent_7 hl (by decide) rfl (fun ls hl => ?_)
  refine lv_iconst (v := 0) hx hb dX7_howManyBent_9 (by decide) ?_
  refine lv_istore (lv' := [(5, .int (0 : Int32)), (4, .int r_1), (3, .int (0 : Int32)), (0, .ref (a 0)), (1, .int x1), (2, .int x2)]) hx hb dX7_howManyBent_10 hl (by decide) rfl (fun ls hl => ?_)
  exact tX7_howManyBent_12 hd C0 hA N  N _ _ _ _ _ _ _ _ H locs ls hf hP hD hS (lv_sub hl [3, 4, 5, 2, 1, 0] rfl)

theorem nb_dX7_firstBent_0 : bls_w cX7_firstBent [(0, [42]), (1, [27]), (2, [182, 0, 47]), (5, [62]), (6, [3]), (7, [54, 4]), (9, [21, 4]), (11, [29]), (12, [162, 0, 34]), (15, [42]), (16, [27]), (17, [21, 4])] := bls_of (by decide +kernel)
theorem dX7_firstBent_0 : decode cX7_firstBent 0 = .ok (.aload_n 0, 1) := op_42 nb_dX7_firstBent_0.1
theorem dX7_firstBent_1 : decode cX7_firstBent 1 = .ok (.iload_n 1, 1) := op_27 nb_dX7_firstBent_0.2.1
set_option maxRecDepth 100000 in
theorem dX7_firstBent_2 : decode cX7_firstBent 2 = .ok (.invokevirtual 47, 3) := (op_182 nb_dX7_firstBent_0.2.2.1).trans rfl
theorem dX7_firstBent_5 : decode cX7_firstBent 5 = .ok (.istore_n 3, 1) := op_62 nb_dX7_firstBent_0.2.2.2.1
theorem dX7_firstBent_6 : decode cX7_firstBent 6 = .ok (.iconst 0, 1) := op_3 nb_dX7_firstBent_0.2.2.2.2.1
set_option maxRecDepth 100000 in
theorem dX7_firstBent_7 : decode cX7_firstBent 7 = .ok (.istore 4, 2) := (op_54 nb_dX7_firstBent_0.2.2.2.2.2.1).trans rfl
set_option maxRecDepth 100000 in
theorem dX7_firstBent_9 : decode cX7_firstBent 9 = .ok (.iload 4, 2) := (op_21 nb_dX7_firstBent_0.2.2.2.2.2.2.1).trans rfl
theorem dX7_firstBent_11 : decode cX7_firstBent 11 = .ok (.iload_n 3, 1) := op_29 nb_dX7_firstBent_0.2.2.2.2.2.2.2.1
set_option maxRecDepth 100000 in
theorem dX7_firstBent_12 : decode cX7_firstBent 12 = .ok (.if_icmp .ge 34, 3) := (op_162 nb_dX7_firstBent_0.2.2.2.2.2.2.2.2.1).trans rfl
theorem dX7_firstBent_15 : decode cX7_firstBent 15 = .ok (.aload_n 0, 1) := op_42 nb_dX7_firstBent_0.2.2.2.2.2.2.2.2.2.1
theorem dX7_firstBent_16 : decode cX7_firstBent 16 = .ok (.iload_n 1, 1) := op_27 nb_dX7_firstBent_0.2.2.2.2.2.2.2.2.2.2.1
set_option maxRecDepth 100000 in
theorem dX7_firstBent_17 : decode cX7_firstBent 17 = .ok (.iload 4, 2) := (op_21 nb_dX7_firstBent_0.2.2.2.2.2.2.2.2.2.2.2.1).trans rfl
theorem nb_dX7_firstBent_19 : bls_w cX7_firstBent [(19, [28]), (20, [182, 0, 54]), (23, [153, 0, 17]), (26, [42]), (27, [180, 0, 11]), (30, [178, 0, 51]), (33, [27]), (34, [46]), (35, [21, 4]), (37, [96]), (38, [46]), (39, [172])] := bls_of (by decide +kernel)
theorem dX7_firstBent_19 : decode cX7_firstBent 19 = .ok (.iload_n 2, 1) := op_28 nb_dX7_firstBent_19.1
set_option maxRecDepth 100000 in
theorem dX7_firstBent_20 : decode cX7_firstBent 20 = .ok (.invokevirtual 54, 3) := (op_182 nb_dX7_firstBent_19.2.1).trans rfl
set_option maxRecDepth 100000 in
theorem dX7_firstBent_23 : decode cX7_firstBent 23 = .ok (.ifCond .eq 17, 3) := (op_153 nb_dX7_firstBent_19.2.2.1).trans rfl
theorem dX7_firstBent_26 : decode cX7_firstBent 26 = .ok (.aload_n 0, 1) := op_42 nb_dX7_firstBent_19.2.2.2.1
set_option maxRecDepth 100000 in
theorem dX7_firstBent_27 : decode cX7_firstBent 27 = .ok (.getfield 11, 3) := (op_180 nb_dX7_firstBent_19.2.2.2.2.1).trans rfl
set_option maxRecDepth 100000 in
theorem dX7_firstBent_30 : decode cX7_firstBent 30 = .ok (.getstatic 51, 3) := (op_178 nb_dX7_firstBent_19.2.2.2.2.2.1).trans rfl
theorem dX7_firstBent_33 : decode cX7_firstBent 33 = .ok (.iload_n 1, 1) := op_27 nb_dX7_firstBent_19.2.2.2.2.2.2.1
theorem dX7_firstBent_34 : decode cX7_firstBent 34 = .ok (.iaload, 1) := op_46 nb_dX7_firstBent_19.2.2.2.2.2.2.2.1
set_option maxRecDepth 100000 in
theorem dX7_firstBent_35 : decode cX7_firstBent 35 = .ok (.iload 4, 2) := (op_21 nb_dX7_firstBent_19.2.2.2.2.2.2.2.2.1).trans rfl
theorem dX7_firstBent_37 : decode cX7_firstBent 37 = .ok (.iadd, 1) := op_96 nb_dX7_firstBent_19.2.2.2.2.2.2.2.2.2.1
theorem dX7_firstBent_38 : decode cX7_firstBent 38 = .ok (.iaload, 1) := op_46 nb_dX7_firstBent_19.2.2.2.2.2.2.2.2.2.2.1
theorem dX7_firstBent_39 : decode cX7_firstBent 39 = .ok (.ireturn, 1) := op_172 nb_dX7_firstBent_19.2.2.2.2.2.2.2.2.2.2.2.1
theorem nb_dX7_firstBent_40 : bls_w cX7_firstBent [(40, [132, 4, 1]), (43, [167, 255, 222]), (46, [2]), (47, [172])] := bls_of (by decide +kernel)
set_option maxRecDepth 100000 in
theorem dX7_firstBent_40 : decode cX7_firstBent 40 = .ok (.iinc 4 1, 3) := (op_132 nb_dX7_firstBent_40.1).trans rfl
set_option maxRecDepth 100000 in
theorem dX7_firstBent_43 : decode cX7_firstBent 43 = .ok (.goto (-34), 3) := (op_167 nb_dX7_firstBent_40.2.1).trans rfl
theorem dX7_firstBent_46 : decode cX7_firstBent 46 = .ok (.iconst (-1), 1) := op_2 nb_dX7_firstBent_40.2.2.1
theorem dX7_firstBent_47 : decode cX7_firstBent 47 = .ok (.ireturn, 1) := op_172 nb_dX7_firstBent_40.2.2.2.1
def fX7_firstBent_9 (N : Nat)  : Nat → Int32 → Int32 → Int32 → Int32 → List Int32 → List Int32 → List Int32 → Option (Int32 × List Int32 × List Int32 × List Int32)
  | 0 => fun _ _ _ _ _ _ _ => none
  | n + 1 => fun x1 x2 x3 x4 v_list v_found v_at =>
    if x3 ≤ x4 then
    (some ((-1 : Int32), v_list, v_found, v_at))
    else (mm_bd2 (fX7_isBent N x1 x4 x2 v_list v_at) (fun (r_7 : Bool) (w_8 : List Int32) =>
    if r_7 = false then
    (mm_nm (x4 + (1 : Int32)) (fun (y_11 : Int32) =>
    fX7_firstBent_9 N n x1 x2 x3 y_11 v_list v_found w_8))
    else (mm_ck (mm_inb x1 mm_START.length) (mm_ck (mm_inb ((mm_ig mm_START x1) + x4) v_list.length) (some ((mm_ig v_list ((mm_ig mm_START x1) + x4)), v_list, v_found, w_8))))))

set_option maxHeartbeats 4000000 in
set_option maxRecDepth 100000 in
theorem tX7_firstBent_9 {p : Program} {l : Launch} {e : Env} {s : State} {m : MethodId} {args : Array Value} {below : List Frame} {meth : Method} {c : Code} {D : va_G} {cI cL cS cH : ClassId} {A : Nat → Prop} {d : Nat} {a : Nat → Nat} (hd : 14 ≤ d) (C0 : mm_Cx p s m args meth c RX7 cX7_firstBent 5 (some .int) D (mm_T cI cL cS cH) A) (hA : ∀ q, s.heap.size ≤ q → A q)  {r : Int32} {w_list : List Int32} {w_found : List Int32} {w_at : List Int32} (N : Nat)  : ∀ (n : Nat), ∀ (x1 : Int32) (x2 : Int32) (x3 : Int32) (x4 : Int32) (v_list : List Int32) (v_found : List Int32) (v_at : List Int32) (H : Heap) (locs : List Loc) (ls : Array Slot), fX7_firstBent_9 N n x1 x2 x3 x4 v_list v_found v_at = some (r, w_list, w_found, w_at) → va_P D mm_cl (wd_X7 cI cL cS cH a v_list v_found v_at) H → va_D A (wd_X7 cI cL cS cH a v_list v_found v_at) → va_S A s.heap H locs → lv_has ls 5 [(0, .ref (a 0)), (1, .int x1), (2, .int x2), (3, .int x3), (4, .int x4)] → W p l e (mm_rr d) s m args below meth c H locs 0 0 (mm_Z below D A (wd_X7 cI cL cS cH a w_list w_found w_at) (some (.int r)) args s) (F0 m 9 ls []) := by
  obtain ⟨hx, hb, hml, hown, hts, hr, hlocks, hK, hSt⟩ := id C0
  obtain ⟨⟨t_START, hZ_START, hT_START⟩, ⟨t_ABOVE, hZ_ABOVE, hT_ABOVE⟩, ⟨t_OWN, hZ_OWN, hT_OWN⟩, hNest⟩ := hSt
  intro n
  induction n with
  | zero =>
    intro x1 x2 x3 x4 v_list v_found v_at H locs ls hf
    cases (show none = some _ from hf)
  | succ n ih =>
    intro x1 x2 x3 x4 v_list v_found v_at H locs ls hf hP hD hS hl
    unfold fX7_firstBent_9 at hf
    refine lv_iload hx hb dX7_firstBent_9 (lv_at hl 4 rfl) ?_
    refine lv_iload_n hx hb dX7_firstBent_11 rfl (lv_at hl 3 rfl) ?_
    refine lv_icmp_ge (tgt := 46) hx hb dX7_firstBent_12 (by decide) (fun c_6 => ?_) (fun c_6 => ?_)
    · have hf := mm_ip hf c_6
      refine lv_iconst (v := -1) hx hb dX7_firstBent_46 (by decide) ?_
      apply mm_sub4 hf
      exact mm_iret C0 hP hD hS dX7_firstBent_47
    · have hf := mm_in hf c_6
      refine lv_aload_n hx hb dX7_firstBent_15 rfl (lv_at hl 0 rfl) ?_
      refine lv_iload_n hx hb dX7_firstBent_16 rfl (lv_at hl 1 rfl) ?_
      refine lv_iload hx hb dX7_firstBent_17 (lv_at hl 4 rfl) ?_
      refine lv_iload_n hx hb dX7_firstBent_19 rfl (lv_at hl 2 rfl) ?_
      obtain ⟨r_7, w_8, hc_9, hf⟩ := mm_bd2s hf
      refine mm_callVF (q0 := 0) (ci := 7) (rest := []) C0 lk_X7_54 (ctX7_isBent (a := a) (d := d - 1) (by omega) hc_9) (by omega) rfl hl.1 rfl (mm_cat rfl) dX7_firstBent_20 hP hD hA hS rfl rfl (fun H locs hP hD hS => ?_)
      refine W.eq (g2 := F0 m 23 ls [.int (mm_b r_7)]) rfl ?_
      refine lv_if_eq (tgt := 40) hx hb dX7_firstBent_23 (by decide) (fun c_10 => ?_) (fun c_10 => ?_)
      · have hf := mm_ip hf (mm_b0 c_10)
        obtain ⟨y_11, ey_11⟩ : ∃ z : Int32, z = x4 + (1 : Int32) := ⟨_, rfl⟩
        have hf := mm_nms hf ey_11
        refine lv_iinc (v := y_11) (lv' := [(4, .int y_11), (0, .ref (a 0)), (1, .int x1), (2, .int x2), (3, .int x3)]) hx hb dX7_firstBent_40 hl (k := 4) rfl (by rw [ey_11]; rfl) (by decide) rfl (fun ls hl => ?_)
        refine lv_goto (tgt := 9) hx hb dX7_firstBent_43 (by decide) ?_
        exact ih _ _ _ _ _ _ _ H locs ls hf hP hD hS (lv_sub hl [1, 2, 3, 4, 0] rfl)
      · have hf := mm_in hf (mm_b1 c_10)
        refine lv_aload_n hx hb dX7_firstBent_26 rfl (lv_at hl 0 rfl) ?_
        refine mm_get C0 hP iw_X7 0 rfl rfl 0 (by decide) fl_X7_11 rfl dX7_firstBent_27 ?_
        refine va_gets hx hb hZ_START hS hown (hts _ fl_X7_51) (fun _ h9 => h9) dX7_firstBent_30 ?_
        refine lv_iload_n hx hb dX7_firstBent_33 rfl (lv_at hl 1 rfl) ?_
        obtain ⟨h_12, hf⟩ := mm_cks hf
        refine va_ti (v := .int (mm_ig mm_START x1)) hx hb hT_START hS (mm_inbs h_12).1 rfl dX7_firstBent_34 ?_
        refine lv_iload hx hb dX7_firstBent_35 (lv_at hl 4 rfl) ?_
        refine lv_iadd hx hb dX7_firstBent_37 ?_
        obtain ⟨h_13, hf⟩ := mm_cks hf
        refine mm_iald C0 hP 1 rfl h_13 dX7_firstBent_38 ?_
        apply mm_sub4 hf
        exact mm_iret C0 hP hD hS dX7_firstBent_39

def fX7_firstBent (N : Nat) (x1 : Int32) (x2 : Int32) (v_list : List Int32) (v_found : List Int32) (v_at : List Int32) : Option (Int32 × List Int32 × List Int32 × List Int32) :=
    mm_bd4 (fX7_howMany N x1 v_list v_found v_at) (fun (r_1 : Int32) (w_2 : List Int32) (w_3 : List Int32) (w_4 : List Int32) =>
    fX7_firstBent_9 N N x1 x2 r_1 (0 : Int32) w_2 w_3 w_4)

set_option maxHeartbeats 4000000 in
set_option maxRecDepth 100000 in
theorem ctX7_firstBent {l : Launch} {D : va_G} {cI cL cS cH : ClassId} {a : Nat → Nat} {x1 : Int32} {x2 : Int32} {v_list : List Int32} {v_found : List Int32} {v_at : List Int32} {r : Int32} {w_list : List Int32} {w_found : List Int32} {w_at : List Int32} {N d : Nat} (hd : 14 ≤ d) (hf : fX7_firstBent N x1 x2 v_list v_found v_at = some (r, w_list, w_found, w_at)) : mm_Ct l yX7_firstBent cX7_firstBent 5 (some .int) d D (mm_T cI cL cS cH) [.ref (a 0), .int x1, .int x2] (wd_X7 cI cL cS cH a v_list v_found v_at) (wd_X7 cI cL cS cH a w_list w_found w_at) (some (.int r)) := by
  refine mm_of (by decide) (Nat.le_of_ble_eq_true rfl) ?_
  intro p e s m args below meth c A H locs ls C0 hP hD hA hS hl
  have C0 : mm_Cx p s m args meth c RX7 cX7_firstBent 5 (some .int) D (mm_T cI cL cS cH) A := C0
  obtain ⟨hx, hb, hml, hown, hts, hr, hlocks, hK, hSt⟩ := id C0
  obtain ⟨⟨t_START, hZ_START, hT_START⟩, ⟨t_ABOVE, hZ_ABOVE, hT_ABOVE⟩, ⟨t_OWN, hZ_OWN, hT_OWN⟩, hNest⟩ := hSt
  have hl : lv_has ls 5 [(0, .ref (a 0)), (1, .int x1), (2, .int x2)] := hl
  unfold fX7_firstBent at hf
  refine lv_aload_n hx hb dX7_firstBent_0 rfl (lv_at hl 0 rfl) ?_
  refine lv_iload_n hx hb dX7_firstBent_1 rfl (lv_at hl 1 rfl) ?_
  obtain ⟨r_1, w_2, w_3, w_4, hc_5, hf⟩ := mm_bd4s hf
  refine mm_callVF (q0 := 0) (ci := 7) (rest := []) C0 lk_X7_47 (ctX7_howMany (a := a) (d := d - 1) (by omega) hc_5) (by omega) rfl hl.1 rfl (mm_cat rfl) dX7_firstBent_2 hP hD hA hS rfl rfl (fun H locs hP hD hS => ?_)
  refine W.eq (g2 := F0 m 5 ls [.int r_1]) rfl ?_
  refine lv_istore_n (lv' := [(3, .int r_1), (0, .ref (a 0)), (1, .int x1), (2, .int x2)]) hx hb dX7_firstBent_5 rfl hl (by decide) rfl (fun ls hl => ?_)
  refine lv_iconst (v := 0) hx hb dX7_firstBent_6 (by decide) ?_
  refine lv_istore (lv' := [(4, .int (0 : Int32)), (3, .int r_1), (0, .ref (a 0)), (1, .int x1), (2, .int x2)]) hx hb dX7_firstBent_7 hl (by decide) rfl (fun ls hl => ?_)
  exact tX7_firstBent_9 hd C0 hA N  N _ _ _ _ _ _ _ H locs ls hf hP hD hS (lv_sub hl [2, 3, 4, 1, 0] rfl)

theorem nb_dX7_howManyTopped_0 : bls_w cX7_howManyTopped [(0, [3]), (1, [62]), (2, [42]), (3, [27]), (4, [182, 0, 47]), (7, [54, 4]), (9, [3]), (10, [54, 5]), (12, [21, 5]), (14, [21, 4]), (16, [162, 0, 34]), (19, [42])] := bls_of (by decide +kernel)
theorem dX7_howManyTopped_0 : decode cX7_howManyTopped 0 = .ok (.iconst 0, 1) := op_3 nb_dX7_howManyTopped_0.1
theorem dX7_howManyTopped_1 : decode cX7_howManyTopped 1 = .ok (.istore_n 3, 1) := op_62 nb_dX7_howManyTopped_0.2.1
theorem dX7_howManyTopped_2 : decode cX7_howManyTopped 2 = .ok (.aload_n 0, 1) := op_42 nb_dX7_howManyTopped_0.2.2.1
theorem dX7_howManyTopped_3 : decode cX7_howManyTopped 3 = .ok (.iload_n 1, 1) := op_27 nb_dX7_howManyTopped_0.2.2.2.1
set_option maxRecDepth 100000 in
theorem dX7_howManyTopped_4 : decode cX7_howManyTopped 4 = .ok (.invokevirtual 47, 3) := (op_182 nb_dX7_howManyTopped_0.2.2.2.2.1).trans rfl
set_option maxRecDepth 100000 in
theorem dX7_howManyTopped_7 : decode cX7_howManyTopped 7 = .ok (.istore 4, 2) := (op_54 nb_dX7_howManyTopped_0.2.2.2.2.2.1).trans rfl
theorem dX7_howManyTopped_9 : decode cX7_howManyTopped 9 = .ok (.iconst 0, 1) := op_3 nb_dX7_howManyTopped_0.2.2.2.2.2.2.1
set_option maxRecDepth 100000 in
theorem dX7_howManyTopped_10 : decode cX7_howManyTopped 10 = .ok (.istore 5, 2) := (op_54 nb_dX7_howManyTopped_0.2.2.2.2.2.2.2.1).trans rfl
set_option maxRecDepth 100000 in
theorem dX7_howManyTopped_12 : decode cX7_howManyTopped 12 = .ok (.iload 5, 2) := (op_21 nb_dX7_howManyTopped_0.2.2.2.2.2.2.2.2.1).trans rfl
set_option maxRecDepth 100000 in
theorem dX7_howManyTopped_14 : decode cX7_howManyTopped 14 = .ok (.iload 4, 2) := (op_21 nb_dX7_howManyTopped_0.2.2.2.2.2.2.2.2.2.1).trans rfl
set_option maxRecDepth 100000 in
theorem dX7_howManyTopped_16 : decode cX7_howManyTopped 16 = .ok (.if_icmp .ge 34, 3) := (op_162 nb_dX7_howManyTopped_0.2.2.2.2.2.2.2.2.2.2.1).trans rfl
theorem dX7_howManyTopped_19 : decode cX7_howManyTopped 19 = .ok (.aload_n 0, 1) := op_42 nb_dX7_howManyTopped_0.2.2.2.2.2.2.2.2.2.2.2.1
theorem nb_dX7_howManyTopped_20 : bls_w cX7_howManyTopped [(20, [180, 0, 11]), (23, [178, 0, 51]), (26, [27]), (27, [46]), (28, [21, 5]), (30, [96]), (31, [46]), (32, [16, 10]), (34, [112]), (35, [28]), (36, [4]), (37, [96])] := bls_of (by decide +kernel)
set_option maxRecDepth 100000 in
theorem dX7_howManyTopped_20 : decode cX7_howManyTopped 20 = .ok (.getfield 11, 3) := (op_180 nb_dX7_howManyTopped_20.1).trans rfl
set_option maxRecDepth 100000 in
theorem dX7_howManyTopped_23 : decode cX7_howManyTopped 23 = .ok (.getstatic 51, 3) := (op_178 nb_dX7_howManyTopped_20.2.1).trans rfl
theorem dX7_howManyTopped_26 : decode cX7_howManyTopped 26 = .ok (.iload_n 1, 1) := op_27 nb_dX7_howManyTopped_20.2.2.1
theorem dX7_howManyTopped_27 : decode cX7_howManyTopped 27 = .ok (.iaload, 1) := op_46 nb_dX7_howManyTopped_20.2.2.2.1
set_option maxRecDepth 100000 in
theorem dX7_howManyTopped_28 : decode cX7_howManyTopped 28 = .ok (.iload 5, 2) := (op_21 nb_dX7_howManyTopped_20.2.2.2.2.1).trans rfl
theorem dX7_howManyTopped_30 : decode cX7_howManyTopped 30 = .ok (.iadd, 1) := op_96 nb_dX7_howManyTopped_20.2.2.2.2.2.1
theorem dX7_howManyTopped_31 : decode cX7_howManyTopped 31 = .ok (.iaload, 1) := op_46 nb_dX7_howManyTopped_20.2.2.2.2.2.2.1
set_option maxRecDepth 100000 in
theorem dX7_howManyTopped_32 : decode cX7_howManyTopped 32 = .ok (.bipush 10, 2) := (op_16 nb_dX7_howManyTopped_20.2.2.2.2.2.2.2.1).trans rfl
theorem dX7_howManyTopped_34 : decode cX7_howManyTopped 34 = .ok (.irem, 1) := op_112 nb_dX7_howManyTopped_20.2.2.2.2.2.2.2.2.1
theorem dX7_howManyTopped_35 : decode cX7_howManyTopped 35 = .ok (.iload_n 2, 1) := op_28 nb_dX7_howManyTopped_20.2.2.2.2.2.2.2.2.2.1
theorem dX7_howManyTopped_36 : decode cX7_howManyTopped 36 = .ok (.iconst 1, 1) := op_4 nb_dX7_howManyTopped_20.2.2.2.2.2.2.2.2.2.2.1
theorem dX7_howManyTopped_37 : decode cX7_howManyTopped 37 = .ok (.iadd, 1) := op_96 nb_dX7_howManyTopped_20.2.2.2.2.2.2.2.2.2.2.2.1
theorem nb_dX7_howManyTopped_38 : bls_w cX7_howManyTopped [(38, [160, 0, 6]), (41, [132, 3, 1]), (44, [132, 5, 1]), (47, [167, 255, 221]), (50, [29]), (51, [172])] := bls_of (by decide +kernel)
set_option maxRecDepth 100000 in
theorem dX7_howManyTopped_38 : decode cX7_howManyTopped 38 = .ok (.if_icmp .ne 6, 3) := (op_160 nb_dX7_howManyTopped_38.1).trans rfl
set_option maxRecDepth 100000 in
theorem dX7_howManyTopped_41 : decode cX7_howManyTopped 41 = .ok (.iinc 3 1, 3) := (op_132 nb_dX7_howManyTopped_38.2.1).trans rfl
set_option maxRecDepth 100000 in
theorem dX7_howManyTopped_44 : decode cX7_howManyTopped 44 = .ok (.iinc 5 1, 3) := (op_132 nb_dX7_howManyTopped_38.2.2.1).trans rfl
set_option maxRecDepth 100000 in
theorem dX7_howManyTopped_47 : decode cX7_howManyTopped 47 = .ok (.goto (-35), 3) := (op_167 nb_dX7_howManyTopped_38.2.2.2.1).trans rfl
theorem dX7_howManyTopped_50 : decode cX7_howManyTopped 50 = .ok (.iload_n 3, 1) := op_29 nb_dX7_howManyTopped_38.2.2.2.2.1
theorem dX7_howManyTopped_51 : decode cX7_howManyTopped 51 = .ok (.ireturn, 1) := op_172 nb_dX7_howManyTopped_38.2.2.2.2.2.1
def fX7_howManyTopped_44 (N : Nat) (k_12 : Int32 → Int32 → Int32 → Int32 → Int32 → List Int32 → List Int32 → List Int32 → Option (Int32 × List Int32 × List Int32 × List Int32)) (x1 : Int32) (x2 : Int32) (x3 : Int32) (x4 : Int32) (x5 : Int32) (v_list : List Int32) (v_found : List Int32) (v_at : List Int32) : Option (Int32 × List Int32 × List Int32 × List Int32) :=
    mm_nm (x5 + (1 : Int32)) (fun (y_12 : Int32) =>
    k_12 x1 x2 x3 x4 y_12 v_list v_found v_at)

set_option maxHeartbeats 4000000 in
set_option maxRecDepth 100000 in
theorem tX7_howManyTopped_44 {p : Program} {l : Launch} {e : Env} {s : State} {m : MethodId} {args : Array Value} {below : List Frame} {meth : Method} {c : Code} {D : va_G} {cI cL cS cH : ClassId} {A : Nat → Prop} {d : Nat} {a : Nat → Nat} (hd : 14 ≤ d) (C0 : mm_Cx p s m args meth c RX7 cX7_howManyTopped 6 (some .int) D (mm_T cI cL cS cH) A) (hA : ∀ q, s.heap.size ≤ q → A q)  {r : Int32} {w_list : List Int32} {w_found : List Int32} {w_at : List Int32} (N : Nat) {k_12 : Int32 → Int32 → Int32 → Int32 → Int32 → List Int32 → List Int32 → List Int32 → Option (Int32 × List Int32 × List Int32 × List Int32)} (hk_12 : ∀ (x1 : Int32) (x2 : Int32) (x3 : Int32) (x4 : Int32) (x5 : Int32) (v_list : List Int32) (v_found : List Int32) (v_at : List Int32) (H : Heap) (locs : List Loc) (ls : Array Slot), k_12 x1 x2 x3 x4 x5 v_list v_found v_at = some (r, w_list, w_found, w_at) → va_P D mm_cl (wd_X7 cI cL cS cH a v_list v_found v_at) H → va_D A (wd_X7 cI cL cS cH a v_list v_found v_at) → va_S A s.heap H locs → lv_has ls 6 [(0, .ref (a 0)), (1, .int x1), (2, .int x2), (3, .int x3), (4, .int x4), (5, .int x5)] → W p l e (mm_rr d) s m args below meth c H locs 0 0 (mm_Z below D A (wd_X7 cI cL cS cH a w_list w_found w_at) (some (.int r)) args s) (F0 m 12 ls [])) : ∀ (x1 : Int32) (x2 : Int32) (x3 : Int32) (x4 : Int32) (x5 : Int32) (v_list : List Int32) (v_found : List Int32) (v_at : List Int32) (H : Heap) (locs : List Loc) (ls : Array Slot), fX7_howManyTopped_44 N k_12 x1 x2 x3 x4 x5 v_list v_found v_at = some (r, w_list, w_found, w_at) → va_P D mm_cl (wd_X7 cI cL cS cH a v_list v_found v_at) H → va_D A (wd_X7 cI cL cS cH a v_list v_found v_at) → va_S A s.heap H locs → lv_has ls 6 [(0, .ref (a 0)), (1, .int x1), (2, .int x2), (3, .int x3), (4, .int x4), (5, .int x5)] → W p l e (mm_rr d) s m args below meth c H locs 0 0 (mm_Z below D A (wd_X7 cI cL cS cH a w_list w_found w_at) (some (.int r)) args s) (F0 m 44 ls []) := by
  obtain ⟨hx, hb, hml, hown, hts, hr, hlocks, hK, hSt⟩ := id C0
  obtain ⟨⟨t_START, hZ_START, hT_START⟩, ⟨t_ABOVE, hZ_ABOVE, hT_ABOVE⟩, ⟨t_OWN, hZ_OWN, hT_OWN⟩, hNest⟩ := hSt
  intro x1 x2 x3 x4 x5 v_list v_found v_at H locs ls hf hP hD hS hl
  unfold fX7_howManyTopped_44 at hf
  obtain ⟨y_12, ey_12⟩ : ∃ z : Int32, z = x5 + (1 : Int32) := ⟨_, rfl⟩
  have hf := mm_nms hf ey_12
  refine lv_iinc (v := y_12) (lv' := [(5, .int y_12), (0, .ref (a 0)), (1, .int x1), (2, .int x2), (3, .int x3), (4, .int x4)]) hx hb dX7_howManyTopped_44 hl (k := 5) rfl (by rw [ey_12]; rfl) (by decide) rfl (fun ls hl => ?_)
  refine lv_goto (tgt := 12) hx hb dX7_howManyTopped_47 (by decide) ?_
  exact hk_12 _ _ _ _ _ _ _ _ H locs ls hf hP hD hS (lv_sub hl [1, 2, 3, 4, 5, 0] rfl)

def fX7_howManyTopped_12 (N : Nat)  : Nat → Int32 → Int32 → Int32 → Int32 → Int32 → List Int32 → List Int32 → List Int32 → Option (Int32 × List Int32 × List Int32 × List Int32)
  | 0 => fun _ _ _ _ _ _ _ _ => none
  | n + 1 => fun x1 x2 x3 x4 x5 v_list v_found v_at =>
    if x4 ≤ x5 then
    (some (x3, v_list, v_found, v_at))
    else (mm_ck (mm_inb x1 mm_START.length) (mm_ck (mm_inb ((mm_ig mm_START x1) + x5) v_list.length) (mm_ck (mm_nz (10 : Int32)) (if (mm_rem (mm_ig v_list ((mm_ig mm_START x1) + x5)) (10 : Int32)) = (x2 + (1 : Int32)) then
    (mm_nm (x3 + (1 : Int32)) (fun (y_11 : Int32) =>
    fX7_howManyTopped_44 N (fX7_howManyTopped_12 N n) x1 x2 y_11 x4 x5 v_list v_found v_at))
    else (fX7_howManyTopped_44 N (fX7_howManyTopped_12 N n) x1 x2 x3 x4 x5 v_list v_found v_at)))))

set_option maxHeartbeats 4000000 in
set_option maxRecDepth 100000 in
theorem tX7_howManyTopped_12 {p : Program} {l : Launch} {e : Env} {s : State} {m : MethodId} {args : Array Value} {below : List Frame} {meth : Method} {c : Code} {D : va_G} {cI cL cS cH : ClassId} {A : Nat → Prop} {d : Nat} {a : Nat → Nat} (hd : 14 ≤ d) (C0 : mm_Cx p s m args meth c RX7 cX7_howManyTopped 6 (some .int) D (mm_T cI cL cS cH) A) (hA : ∀ q, s.heap.size ≤ q → A q)  {r : Int32} {w_list : List Int32} {w_found : List Int32} {w_at : List Int32} (N : Nat)  : ∀ (n : Nat), ∀ (x1 : Int32) (x2 : Int32) (x3 : Int32) (x4 : Int32) (x5 : Int32) (v_list : List Int32) (v_found : List Int32) (v_at : List Int32) (H : Heap) (locs : List Loc) (ls : Array Slot), fX7_howManyTopped_12 N n x1 x2 x3 x4 x5 v_list v_found v_at = some (r, w_list, w_found, w_at) → va_P D mm_cl (wd_X7 cI cL cS cH a v_list v_found v_at) H → va_D A (wd_X7 cI cL cS cH a v_list v_found v_at) → va_S A s.heap H locs → lv_has ls 6 [(0, .ref (a 0)), (1, .int x1), (2, .int x2), (3, .int x3), (4, .int x4), (5, .int x5)] → W p l e (mm_rr d) s m args below meth c H locs 0 0 (mm_Z below D A (wd_X7 cI cL cS cH a w_list w_found w_at) (some (.int r)) args s) (F0 m 12 ls []) := by
  obtain ⟨hx, hb, hml, hown, hts, hr, hlocks, hK, hSt⟩ := id C0
  obtain ⟨⟨t_START, hZ_START, hT_START⟩, ⟨t_ABOVE, hZ_ABOVE, hT_ABOVE⟩, ⟨t_OWN, hZ_OWN, hT_OWN⟩, hNest⟩ := hSt
  intro n
  induction n with
  | zero =>
    intro x1 x2 x3 x4 x5 v_list v_found v_at H locs ls hf
    cases (show none = some _ from hf)
  | succ n ih =>
    intro x1 x2 x3 x4 x5 v_list v_found v_at H locs ls hf hP hD hS hl
    unfold fX7_howManyTopped_12 at hf
    refine lv_iload hx hb dX7_howManyTopped_12 (lv_at hl 5 rfl) ?_
    refine lv_iload hx hb dX7_howManyTopped_14 (lv_at hl 4 rfl) ?_
    refine lv_icmp_ge (tgt := 50) hx hb dX7_howManyTopped_16 (by decide) (fun c_6 => ?_) (fun c_6 => ?_)
    · have hf := mm_ip hf c_6
      refine lv_iload_n hx hb dX7_howManyTopped_50 rfl (lv_at hl 3 rfl) ?_
      apply mm_sub4 hf
      exact mm_iret C0 hP hD hS dX7_howManyTopped_51
    · have hf := mm_in hf c_6
      refine lv_aload_n hx hb dX7_howManyTopped_19 rfl (lv_at hl 0 rfl) ?_
      refine mm_get C0 hP iw_X7 0 rfl rfl 0 (by decide) fl_X7_11 rfl dX7_howManyTopped_20 ?_
      refine va_gets hx hb hZ_START hS hown (hts _ fl_X7_51) (fun _ h9 => h9) dX7_howManyTopped_23 ?_
      refine lv_iload_n hx hb dX7_howManyTopped_26 rfl (lv_at hl 1 rfl) ?_
      obtain ⟨h_7, hf⟩ := mm_cks hf
      refine va_ti (v := .int (mm_ig mm_START x1)) hx hb hT_START hS (mm_inbs h_7).1 rfl dX7_howManyTopped_27 ?_
      refine lv_iload hx hb dX7_howManyTopped_28 (lv_at hl 5 rfl) ?_
      refine lv_iadd hx hb dX7_howManyTopped_30 ?_
      obtain ⟨h_8, hf⟩ := mm_cks hf
      refine mm_iald C0 hP 1 rfl h_8 dX7_howManyTopped_31 ?_
      refine lv_bipush (v := 10) hx hb dX7_howManyTopped_32 (by decide) ?_
      obtain ⟨h_9, hf⟩ := mm_cks hf
      refine lv_irem hx hb dX7_howManyTopped_34 (mm_nzs h_9) ?_
      refine lv_iload_n hx hb dX7_howManyTopped_35 rfl (lv_at hl 2 rfl) ?_
      refine lv_iconst (v := 1) hx hb dX7_howManyTopped_36 (by decide) ?_
      refine lv_iadd hx hb dX7_howManyTopped_37 ?_
      refine lv_icmp_ne (tgt := 44) hx hb dX7_howManyTopped_38 (by decide) (fun c_10 => ?_) (fun c_10 => ?_)
      · have hf := mm_in hf c_10
        exact tX7_howManyTopped_44 hd C0 hA N ih _ _ _ _ _ _ _ _ H locs ls hf hP hD hS (lv_sub hl [0, 1, 2, 3, 4, 5] rfl)
      · have hf := mm_ip hf c_10
        obtain ⟨y_11, ey_11⟩ : ∃ z : Int32, z = x3 + (1 : Int32) := ⟨_, rfl⟩
        have hf := mm_nms hf ey_11
        refine lv_iinc (v := y_11) (lv' := [(3, .int y_11), (0, .ref (a 0)), (1, .int x1), (2, .int x2), (4, .int x4), (5, .int x5)]) hx hb dX7_howManyTopped_41 hl (k := 3) rfl (by rw [ey_11]; rfl) (by decide) rfl (fun ls hl => ?_)
        exact tX7_howManyTopped_44 hd C0 hA N ih _ _ _ _ _ _ _ _ H locs ls hf hP hD hS (lv_sub hl [1, 2, 3, 0, 4, 5] rfl)

def fX7_howManyTopped (N : Nat) (x1 : Int32) (x2 : Int32) (v_list : List Int32) (v_found : List Int32) (v_at : List Int32) : Option (Int32 × List Int32 × List Int32 × List Int32) :=
    mm_bd4 (fX7_howMany N x1 v_list v_found v_at) (fun (r_1 : Int32) (w_2 : List Int32) (w_3 : List Int32) (w_4 : List Int32) =>
    fX7_howManyTopped_12 N N x1 x2 (0 : Int32) r_1 (0 : Int32) w_2 w_3 w_4)

set_option maxHeartbeats 4000000 in
set_option maxRecDepth 100000 in
theorem ctX7_howManyTopped {l : Launch} {D : va_G} {cI cL cS cH : ClassId} {a : Nat → Nat} {x1 : Int32} {x2 : Int32} {v_list : List Int32} {v_found : List Int32} {v_at : List Int32} {r : Int32} {w_list : List Int32} {w_found : List Int32} {w_at : List Int32} {N d : Nat} (hd : 14 ≤ d) (hf : fX7_howManyTopped N x1 x2 v_list v_found v_at = some (r, w_list, w_found, w_at)) : mm_Ct l yX7_howManyTopped cX7_howManyTopped 6 (some .int) d D (mm_T cI cL cS cH) [.ref (a 0), .int x1, .int x2] (wd_X7 cI cL cS cH a v_list v_found v_at) (wd_X7 cI cL cS cH a w_list w_found w_at) (some (.int r)) := by
  refine mm_of (by decide) (Nat.le_of_ble_eq_true rfl) ?_
  intro p e s m args below meth c A H locs ls C0 hP hD hA hS hl
  have C0 : mm_Cx p s m args meth c RX7 cX7_howManyTopped 6 (some .int) D (mm_T cI cL cS cH) A := C0
  obtain ⟨hx, hb, hml, hown, hts, hr, hlocks, hK, hSt⟩ := id C0
  obtain ⟨⟨t_START, hZ_START, hT_START⟩, ⟨t_ABOVE, hZ_ABOVE, hT_ABOVE⟩, ⟨t_OWN, hZ_OWN, hT_OWN⟩, hNest⟩ := hSt
  have hl : lv_has ls 6 [(0, .ref (a 0)), (1, .int x1), (2, .int x2)] := hl
  unfold fX7_howManyTopped at hf
  refine lv_iconst (v := 0) hx hb dX7_howManyTopped_0 (by decide) ?_
  refine lv_istore_n (lv' := [(3, .int (0 : Int32)), (0, .ref (a 0)), (1, .int x1), (2, .int x2)]) hx hb dX7_howManyTopped_1 rfl hl (by decide) rfl (fun ls hl => ?_)
  refine lv_aload_n hx hb dX7_howManyTopped_2 rfl (lv_at hl 1 rfl) ?_
  refine lv_iload_n hx hb dX7_howManyTopped_3 rfl (lv_at hl 2 rfl) ?_
  obtain ⟨r_1, w_2, w_3, w_4, hc_5, hf⟩ := mm_bd4s hf
  refine mm_callVF (q0 := 0) (ci := 7) (rest := []) C0 lk_X7_47 (ctX7_howMany (a := a) (d := d - 1) (by omega) hc_5) (by omega) rfl hl.1 rfl (mm_cat rfl) dX7_howManyTopped_4 hP hD hA hS rfl rfl (fun H locs hP hD hS => ?_)
  refine W.eq (g2 := F0 m 7 ls [.int r_1]) rfl ?_
  refine lv_istore (lv' := [(4, .int r_1), (3, .int (0 : Int32)), (0, .ref (a 0)), (1, .int x1), (2, .int x2)]) hx hb dX7_howManyTopped_7 hl (by decide) rfl (fun ls hl => ?_)
  refine lv_iconst (v := 0) hx hb dX7_howManyTopped_9 (by decide) ?_
  refine lv_istore (lv' := [(5, .int (0 : Int32)), (4, .int r_1), (3, .int (0 : Int32)), (0, .ref (a 0)), (1, .int x1), (2, .int x2)]) hx hb dX7_howManyTopped_10 hl (by decide) rfl (fun ls hl => ?_)
  exact tX7_howManyTopped_12 hd C0 hA N  N _ _ _ _ _ _ _ _ H locs ls hf hP hD hS (lv_sub hl [3, 4, 5, 2, 1, 0] rfl)
end
