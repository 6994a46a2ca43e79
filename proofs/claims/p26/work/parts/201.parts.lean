/-! parts: X0_forgetOldest, X0_become, X0_stepBack, X0_stepOn, X1_make, X1_has, X1_isUnder, X1_traced, X1_note, X1_call, X1_run, X1_perform, X2_write, X2_fail, X2_next, X2_meets, X2_note, X2_isDigit -/
theorem nb_dX0_forgetOldest_0 : bls_w cX0_forgetOldest [(0, [42]), (1, [180, 0, 15]), (4, [4]), (5, [42]), (6, [180, 0, 15]), (9, [3]), (10, [16, 39]), (12, [184, 0, 31]), (15, [42]), (16, [180, 0, 19]), (19, [4]), (20, [42])] := bls_of (by decide +kernel)
theorem dX0_forgetOldest_0 : decode cX0_forgetOldest 0 = .ok (.aload_n 0, 1) := op_42 nb_dX0_forgetOldest_0.1
set_option maxRecDepth 100000 in
theorem dX0_forgetOldest_1 : decode cX0_forgetOldest 1 = .ok (.getfield 15, 3) := (op_180 nb_dX0_forgetOldest_0.2.1).trans rfl
theorem dX0_forgetOldest_4 : decode cX0_forgetOldest 4 = .ok (.iconst 1, 1) := op_4 nb_dX0_forgetOldest_0.2.2.1
theorem dX0_forgetOldest_5 : decode cX0_forgetOldest 5 = .ok (.aload_n 0, 1) := op_42 nb_dX0_forgetOldest_0.2.2.2.1
set_option maxRecDepth 100000 in
theorem dX0_forgetOldest_6 : decode cX0_forgetOldest 6 = .ok (.getfield 15, 3) := (op_180 nb_dX0_forgetOldest_0.2.2.2.2.1).trans rfl
theorem dX0_forgetOldest_9 : decode cX0_forgetOldest 9 = .ok (.iconst 0, 1) := op_3 nb_dX0_forgetOldest_0.2.2.2.2.2.1
set_option maxRecDepth 100000 in
theorem dX0_forgetOldest_10 : decode cX0_forgetOldest 10 = .ok (.bipush 39, 2) := (op_16 nb_dX0_forgetOldest_0.2.2.2.2.2.2.1).trans rfl
set_option maxRecDepth 100000 in
theorem dX0_forgetOldest_12 : decode cX0_forgetOldest 12 = .ok (.invokestatic 31, 3) := (op_184 nb_dX0_forgetOldest_0.2.2.2.2.2.2.2.1).trans rfl
theorem dX0_forgetOldest_15 : decode cX0_forgetOldest 15 = .ok (.aload_n 0, 1) := op_42 nb_dX0_forgetOldest_0.2.2.2.2.2.2.2.2.1
set_option maxRecDepth 100000 in
theorem dX0_forgetOldest_16 : decode cX0_forgetOldest 16 = .ok (.getfield 19, 3) := (op_180 nb_dX0_forgetOldest_0.2.2.2.2.2.2.2.2.2.1).trans rfl
theorem dX0_forgetOldest_19 : decode cX0_forgetOldest 19 = .ok (.iconst 1, 1) := op_4 nb_dX0_forgetOldest_0.2.2.2.2.2.2.2.2.2.2.1
theorem dX0_forgetOldest_20 : decode cX0_forgetOldest 20 = .ok (.aload_n 0, 1) := op_42 nb_dX0_forgetOldest_0.2.2.2.2.2.2.2.2.2.2.2.1
theorem nb_dX0_forgetOldest_21 : bls_w cX0_forgetOldest [(21, [180, 0, 19]), (24, [3]), (25, [16, 39]), (27, [184, 0, 31]), (30, [42]), (31, [89]), (32, [180, 0, 22]), (35, [4]), (36, [100]), (37, [181, 0, 22]), (40, [177])] := bls_of (by decide +kernel)
set_option maxRecDepth 100000 in
theorem dX0_forgetOldest_21 : decode cX0_forgetOldest 21 = .ok (.getfield 19, 3) := (op_180 nb_dX0_forgetOldest_21.1).trans rfl
theorem dX0_forgetOldest_24 : decode cX0_forgetOldest 24 = .ok (.iconst 0, 1) := op_3 nb_dX0_forgetOldest_21.2.1
set_option maxRecDepth 100000 in
theorem dX0_forgetOldest_25 : decode cX0_forgetOldest 25 = .ok (.bipush 39, 2) := (op_16 nb_dX0_forgetOldest_21.2.2.1).trans rfl
set_option maxRecDepth 100000 in
theorem dX0_forgetOldest_27 : decode cX0_forgetOldest 27 = .ok (.invokestatic 31, 3) := (op_184 nb_dX0_forgetOldest_21.2.2.2.1).trans rfl
theorem dX0_forgetOldest_30 : decode cX0_forgetOldest 30 = .ok (.aload_n 0, 1) := op_42 nb_dX0_forgetOldest_21.2.2.2.2.1
theorem dX0_forgetOldest_31 : decode cX0_forgetOldest 31 = .ok (.dup, 1) := op_89 nb_dX0_forgetOldest_21.2.2.2.2.2.1
set_option maxRecDepth 100000 in
theorem dX0_forgetOldest_32 : decode cX0_forgetOldest 32 = .ok (.getfield 22, 3) := (op_180 nb_dX0_forgetOldest_21.2.2.2.2.2.2.1).trans rfl
theorem dX0_forgetOldest_35 : decode cX0_forgetOldest 35 = .ok (.iconst 1, 1) := op_4 nb_dX0_forgetOldest_21.2.2.2.2.2.2.2.1
theorem dX0_forgetOldest_36 : decode cX0_forgetOldest 36 = .ok (.isub, 1) := op_100 nb_dX0_forgetOldest_21.2.2.2.2.2.2.2.2.1
set_option maxRecDepth 100000 in
theorem dX0_forgetOldest_37 : decode cX0_forgetOldest 37 = .ok (.putfield 22, 3) := (op_181 nb_dX0_forgetOldest_21.2.2.2.2.2.2.2.2.2.1).trans rfl
theorem dX0_forgetOldest_40 : decode cX0_forgetOldest 40 = .ok (.return_, 1) := op_177 nb_dX0_forgetOldest_21.2.2.2.2.2.2.2.2.2.2.1
def fX0_forgetOldest (N : Nat) (v_done : Int32) (v_before : List Int32) (v_after : List Int32) : Option (Int32 × List Int32 × List Int32) :=
    mm_ck (mm_cok (1 : Int32) (0 : Int32) (39 : Int32) v_before.length v_before.length) (mm_nm (mm_cp v_before v_before (1 : Int32) (0 : Int32) (39 : Int32)) (fun (l_2 : List Int32) =>
    mm_ck (mm_cok (1 : Int32) (0 : Int32) (39 : Int32) v_after.length v_after.length) (mm_nm (mm_cp v_after v_after (1 : Int32) (0 : Int32) (39 : Int32)) (fun (l_4 : List Int32) =>
    mm_nm ((v_done - (1 : Int32))) (fun (y_5 : Int32) =>
    some (y_5, l_2, l_4))))))

set_option maxHeartbeats 4000000 in
set_option maxRecDepth 100000 in
theorem ctX0_forgetOldest {l : Launch} {D : va_G} {cI cL cS cH : ClassId} {a : Nat → Nat}  {v_value : Int32} {v_done : Int32} {v_size : Int32} {v_before : List Int32} {v_after : List Int32} {w_done : Int32} {w_before : List Int32} {w_after : List Int32} {N d : Nat} (hd : 1 ≤ d) (hf : fX0_forgetOldest N v_done v_before v_after = some (w_done, w_before, w_after)) : mm_Ct l yX0_forgetOldest cX0_forgetOldest 1 none d D (mm_T cI cL cS cH) [.ref (a 0)] (wd_X0 cI cL cS cH a v_value v_done v_size v_before v_after) (wd_X0 cI cL cS cH a v_value w_done v_size w_before w_after) none := by
  refine mm_of (by decide) (Nat.le_of_ble_eq_true rfl) ?_
  intro p e s m args below meth c A H locs ls C0 hP hD hA hS hl
  have C0 : mm_Cx p s m args meth c RX0 cX0_forgetOldest 1 none D (mm_T cI cL cS cH) A := C0
  obtain ⟨hx, hb, hml, hown, hts, hr, hlocks, hK, hSt⟩ := id C0
  have hl : lv_has ls 1 [(0, .ref (a 0))] := hl
  unfold fX0_forgetOldest at hf
  refine lv_aload_n hx hb dX0_forgetOldest_0 rfl (lv_at hl 0 rfl) ?_
  refine mm_get C0 hP iw_X0 0 rfl rfl 3 (by decide) fl_X0_15 rfl dX0_forgetOldest_1 ?_
  refine lv_iconst (v := 1) hx hb dX0_forgetOldest_4 (by decide) ?_
  refine lv_aload_n hx hb dX0_forgetOldest_5 rfl (lv_at hl 0 rfl) ?_
  refine mm_get C0 hP iw_X0 0 rfl rfl 3 (by decide) fl_X0_15 rfl dX0_forgetOldest_6 ?_
  refine lv_iconst (v := 0) hx hb dX0_forgetOldest_9 (by decide) ?_
  refine lv_bipush (v := 39) hx hb dX0_forgetOldest_10 (by decide) ?_
  obtain ⟨h_1, hf⟩ := mm_cks hf
  refine mm_copyi C0 la_X0_31 hP hD hS 1 1 rfl rfl h_1 hl.1 (by omega) (mm_cat rfl) dX0_forgetOldest_12 (w2 := (wd_X0 cI cL cS cH a v_value v_done v_size (mm_cp v_before v_before (1 : Int32) (0 : Int32) (39 : Int32)) v_after)) rfl (fun H locs hP hD hS => ?_)
  generalize el_2 : (mm_cp v_before v_before (1 : Int32) (0 : Int32) (39 : Int32)) = l_2 at hP hD
  have hf := mm_nms hf el_2.symm
  refine lv_aload_n hx hb dX0_forgetOldest_15 rfl (lv_at hl 0 rfl) ?_
  refine mm_get C0 hP iw_X0 0 rfl rfl 4 (by decide) fl_X0_19 rfl dX0_forgetOldest_16 ?_
  refine lv_iconst (v := 1) hx hb dX0_forgetOldest_19 (by decide) ?_
  refine lv_aload_n hx hb dX0_forgetOldest_20 rfl (lv_at hl 0 rfl) ?_
  refine mm_get C0 hP iw_X0 0 rfl rfl 4 (by decide) fl_X0_19 rfl dX0_forgetOldest_21 ?_
  refine lv_iconst (v := 0) hx hb dX0_forgetOldest_24 (by decide) ?_
  refine lv_bipush (v := 39) hx hb dX0_forgetOldest_25 (by decide) ?_
  obtain ⟨h_3, hf⟩ := mm_cks hf
  refine mm_copyi C0 la_X0_31 hP hD hS 2 2 rfl rfl h_3 hl.1 (by omega) (mm_cat rfl) dX0_forgetOldest_27 (w2 := (wd_X0 cI cL cS cH a v_value v_done v_size l_2 (mm_cp v_after v_after (1 : Int32) (0 : Int32) (39 : Int32)))) rfl (fun H locs hP hD hS => ?_)
  generalize el_4 : (mm_cp v_after v_after (1 : Int32) (0 : Int32) (39 : Int32)) = l_4 at hP hD
  have hf := mm_nms hf el_4.symm
  refine lv_aload_n hx hb dX0_forgetOldest_30 rfl (lv_at hl 0 rfl) ?_
  refine lv_dup hx hb dX0_forgetOldest_31 rfl ?_
  refine mm_get C0 hP iw_X0 0 rfl rfl 1 (by decide) fl_X0_22 rfl dX0_forgetOldest_32 ?_
  refine lv_iconst (v := 1) hx hb dX0_forgetOldest_35 (by decide) ?_
  refine lv_isub hx hb dX0_forgetOldest_36 ?_
  refine lv_topi (fun y_5 ey_5 => ?_)
  have hf := mm_nms hf ey_5
  refine mm_put C0 hP hD hS iw_X0 tyX0 tyX0_ok nmX0 0 rfl rfl 1 (by decide) fl_X0_22 rfl rfl rfl (Nat.le_of_ble_eq_true rfl) dX0_forgetOldest_37 (w2 := (wd_X0 cI cL cS cH a v_value y_5 v_size l_2 l_4)) rfl (fun H locs hP hD hS => ?_)
  apply mm_sub3 hf
  exact mm_vret C0 hP hD hS dX0_forgetOldest_40

theorem nb_dX0_become_0 : bls_w cX0_become [(0, [27]), (1, [42]), (2, [180, 0, 9]), (5, [160, 0, 4]), (8, [177]), (9, [42]), (10, [180, 0, 22]), (13, [16, 40]), (15, [160, 0, 7]), (18, [42]), (19, [182, 0, 25]), (22, [42])] := bls_of (by decide +kernel)
theorem dX0_become_0 : decode cX0_become 0 = .ok (.iload_n 1, 1) := op_27 nb_dX0_become_0.1
theorem dX0_become_1 : decode cX0_become 1 = .ok (.aload_n 0, 1) := op_42 nb_dX0_become_0.2.1
set_option maxRecDepth 100000 in
theorem dX0_become_2 : decode cX0_become 2 = .ok (.getfield 9, 3) := (op_180 nb_dX0_become_0.2.2.1).trans rfl
set_option maxRecDepth 100000 in
theorem dX0_become_5 : decode cX0_become 5 = .ok (.if_icmp .ne 4, 3) := (op_160 nb_dX0_become_0.2.2.2.1).trans rfl
theorem dX0_become_8 : decode cX0_become 8 = .ok (.return_, 1) := op_177 nb_dX0_become_0.2.2.2.2.1
theorem dX0_become_9 : decode cX0_become 9 = .ok (.aload_n 0, 1) := op_42 nb_dX0_become_0.2.2.2.2.2.1
set_option maxRecDepth 100000 in
theorem dX0_become_10 : decode cX0_become 10 = .ok (.getfield 22, 3) := (op_180 nb_dX0_become_0.2.2.2.2.2.2.1).trans rfl
set_option maxRecDepth 100000 in
theorem dX0_become_13 : decode cX0_become 13 = .ok (.bipush 40, 2) := (op_16 nb_dX0_become_0.2.2.2.2.2.2.2.1).trans rfl
set_option maxRecDepth 100000 in
theorem dX0_become_15 : decode cX0_become 15 = .ok (.if_icmp .ne 7, 3) := (op_160 nb_dX0_become_0.2.2.2.2.2.2.2.2.1).trans rfl
theorem dX0_become_18 : decode cX0_become 18 = .ok (.aload_n 0, 1) := op_42 nb_dX0_become_0.2.2.2.2.2.2.2.2.2.1
set_option maxRecDepth 100000 in
theorem dX0_become_19 : decode cX0_become 19 = .ok (.invokevirtual 25, 3) := (op_182 nb_dX0_become_0.2.2.2.2.2.2.2.2.2.2.1).trans rfl
theorem dX0_become_22 : decode cX0_become 22 = .ok (.aload_n 0, 1) := op_42 nb_dX0_become_0.2.2.2.2.2.2.2.2.2.2.2.1
theorem nb_dX0_become_23 : bls_w cX0_become [(23, [180, 0, 15]), (26, [42]), (27, [180, 0, 22]), (30, [42]), (31, [180, 0, 9]), (34, [79]), (35, [42]), (36, [180, 0, 19]), (39, [42]), (40, [180, 0, 22]), (43, [27]), (44, [79])] := bls_of (by decide +kernel)
set_option maxRecDepth 100000 in
theorem dX0_become_23 : decode cX0_become 23 = .ok (.getfield 15, 3) := (op_180 nb_dX0_become_23.1).trans rfl
theorem dX0_become_26 : decode cX0_become 26 = .ok (.aload_n 0, 1) := op_42 nb_dX0_become_23.2.1
set_option maxRecDepth 100000 in
theorem dX0_become_27 : decode cX0_become 27 = .ok (.getfield 22, 3) := (op_180 nb_dX0_become_23.2.2.1).trans rfl
theorem dX0_become_30 : decode cX0_become 30 = .ok (.aload_n 0, 1) := op_42 nb_dX0_become_23.2.2.2.1
set_option maxRecDepth 100000 in
theorem dX0_become_31 : decode cX0_become 31 = .ok (.getfield 9, 3) := (op_180 nb_dX0_become_23.2.2.2.2.1).trans rfl
theorem dX0_become_34 : decode cX0_become 34 = .ok (.iastore, 1) := op_79 nb_dX0_become_23.2.2.2.2.2.1
theorem dX0_become_35 : decode cX0_become 35 = .ok (.aload_n 0, 1) := op_42 nb_dX0_become_23.2.2.2.2.2.2.1
set_option maxRecDepth 100000 in
theorem dX0_become_36 : decode cX0_become 36 = .ok (.getfield 19, 3) := (op_180 nb_dX0_become_23.2.2.2.2.2.2.2.1).trans rfl
theorem dX0_become_39 : decode cX0_become 39 = .ok (.aload_n 0, 1) := op_42 nb_dX0_become_23.2.2.2.2.2.2.2.2.1
set_option maxRecDepth 100000 in
theorem dX0_become_40 : decode cX0_become 40 = .ok (.getfield 22, 3) := (op_180 nb_dX0_become_23.2.2.2.2.2.2.2.2.2.1).trans rfl
theorem dX0_become_43 : decode cX0_become 43 = .ok (.iload_n 1, 1) := op_27 nb_dX0_become_23.2.2.2.2.2.2.2.2.2.2.1
theorem dX0_become_44 : decode cX0_become 44 = .ok (.iastore, 1) := op_79 nb_dX0_become_23.2.2.2.2.2.2.2.2.2.2.2.1
theorem nb_dX0_become_45 : bls_w cX0_become [(45, [42]), (46, [89]), (47, [180, 0, 22]), (50, [4]), (51, [96]), (52, [181, 0, 22]), (55, [42]), (56, [42]), (57, [180, 0, 22]), (60, [181, 0, 28]), (63, [42]), (64, [27])] := bls_of (by decide +kernel)
theorem dX0_become_45 : decode cX0_become 45 = .ok (.aload_n 0, 1) := op_42 nb_dX0_become_45.1
theorem dX0_become_46 : decode cX0_become 46 = .ok (.dup, 1) := op_89 nb_dX0_become_45.2.1
set_option maxRecDepth 100000 in
theorem dX0_become_47 : decode cX0_become 47 = .ok (.getfield 22, 3) := (op_180 nb_dX0_become_45.2.2.1).trans rfl
theorem dX0_become_50 : decode cX0_become 50 = .ok (.iconst 1, 1) := op_4 nb_dX0_become_45.2.2.2.1
theorem dX0_become_51 : decode cX0_become 51 = .ok (.iadd, 1) := op_96 nb_dX0_become_45.2.2.2.2.1
set_option maxRecDepth 100000 in
theorem dX0_become_52 : decode cX0_become 52 = .ok (.putfield 22, 3) := (op_181 nb_dX0_become_45.2.2.2.2.2.1).trans rfl
theorem dX0_become_55 : decode cX0_become 55 = .ok (.aload_n 0, 1) := op_42 nb_dX0_become_45.2.2.2.2.2.2.1
theorem dX0_become_56 : decode cX0_become 56 = .ok (.aload_n 0, 1) := op_42 nb_dX0_become_45.2.2.2.2.2.2.2.1
set_option maxRecDepth 100000 in
theorem dX0_become_57 : decode cX0_become 57 = .ok (.getfield 22, 3) := (op_180 nb_dX0_become_45.2.2.2.2.2.2.2.2.1).trans rfl
set_option maxRecDepth 100000 in
theorem dX0_become_60 : decode cX0_become 60 = .ok (.putfield 28, 3) := (op_181 nb_dX0_become_45.2.2.2.2.2.2.2.2.2.1).trans rfl
theorem dX0_become_63 : decode cX0_become 63 = .ok (.aload_n 0, 1) := op_42 nb_dX0_become_45.2.2.2.2.2.2.2.2.2.2.1
theorem dX0_become_64 : decode cX0_become 64 = .ok (.iload_n 1, 1) := op_27 nb_dX0_become_45.2.2.2.2.2.2.2.2.2.2.2.1
theorem nb_dX0_become_65 : bls_w cX0_become [(65, [181, 0, 9]), (68, [177])] := bls_of (by decide +kernel)
set_option maxRecDepth 100000 in
theorem dX0_become_65 : decode cX0_become 65 = .ok (.putfield 9, 3) := (op_181 nb_dX0_become_65.1).trans rfl
theorem dX0_become_68 : decode cX0_become 68 = .ok (.return_, 1) := op_177 nb_dX0_become_65.2.1
def fX0_become_22 (N : Nat)  (x1 : Int32) (v_value : Int32) (v_done : Int32) (v_size : Int32) (v_before : List Int32) (v_after : List Int32) : Option (Int32 × Int32 × Int32 × List Int32 × List Int32) :=
    mm_ck (mm_inb v_done v_before.length) (mm_nm (mm_is v_before v_done v_value) (fun (l_8 : List Int32) =>
    mm_ck (mm_inb v_done v_after.length) (mm_nm (mm_is v_after v_done x1) (fun (l_10 : List Int32) =>
    mm_nm ((v_done + (1 : Int32))) (fun (y_11 : Int32) =>
    some (x1, y_11, y_11, l_8, l_10))))))

set_option maxHeartbeats 4000000 in
set_option maxRecDepth 100000 in
theorem tX0_become_22 {p : Program} {l : Launch} {e : Env} {s : State} {m : MethodId} {args : Array Value} {below : List Frame} {meth : Method} {c : Code} {D : va_G} {cI cL cS cH : ClassId} {A : Nat → Prop} {d : Nat} {a : Nat → Nat} (hd : 2 ≤ d) (C0 : mm_Cx p s m args meth c RX0 cX0_become 2 none D (mm_T cI cL cS cH) A) (hA : ∀ q, s.heap.size ≤ q → A q)  {w_value : Int32} {w_done : Int32} {w_size : Int32} {w_before : List Int32} {w_after : List Int32} (N : Nat)  : ∀ (x1 : Int32) (v_value : Int32) (v_done : Int32) (v_size : Int32) (v_before : List Int32) (v_after : List Int32) (H : Heap) (locs : List Loc) (ls : Array Slot), fX0_become_22 N x1 v_value v_done v_size v_before v_after = some (w_value, w_done, w_size, w_before, w_after) → va_P D mm_cl (wd_X0 cI cL cS cH a v_value v_done v_size v_before v_after) H → va_D A (wd_X0 cI cL cS cH a v_value v_done v_size v_before v_after) → va_S A s.heap H locs → lv_has ls 2 [(0, .ref (a 0)), (1, .int x1)] → W p l e (mm_rr d) s m args below meth c H locs 0 0 (mm_Z below D A (wd_X0 cI cL cS cH a w_value w_done w_size w_before w_after) none args s) (F0 m 22 ls []) := by
  obtain ⟨hx, hb, hml, hown, hts, hr, hlocks, hK, hSt⟩ := id C0
  intro x1 v_value v_done v_size v_before v_after H locs ls hf hP hD hS hl
  unfold fX0_become_22 at hf
  refine lv_aload_n hx hb dX0_become_22 rfl (lv_at hl 0 rfl) ?_
  refine mm_get C0 hP iw_X0 0 rfl rfl 3 (by decide) fl_X0_15 rfl dX0_become_23 ?_
  refine lv_aload_n hx hb dX0_become_26 rfl (lv_at hl 0 rfl) ?_
  refine mm_get C0 hP iw_X0 0 rfl rfl 1 (by decide) fl_X0_22 rfl dX0_become_27 ?_
  refine lv_aload_n hx hb dX0_become_30 rfl (lv_at hl 0 rfl) ?_
  refine mm_get C0 hP iw_X0 0 rfl rfl 0 (by decide) fl_X0_9 rfl dX0_become_31 ?_
  obtain ⟨h_7, hf⟩ := mm_cks hf
  refine mm_iast C0 hP hD hS 1 rfl h_7 dX0_become_34 (w2 := (wd_X0 cI cL cS cH a v_value v_done v_size (mm_is v_before v_done v_value) v_after)) rfl (fun H locs hP hD hS => ?_)
  generalize el_8 : (mm_is v_before v_done v_value) = l_8 at hP hD
  have hf := mm_nms hf el_8.symm
  refine lv_aload_n hx hb dX0_become_35 rfl (lv_at hl 0 rfl) ?_
  refine mm_get C0 hP iw_X0 0 rfl rfl 4 (by decide) fl_X0_19 rfl dX0_become_36 ?_
  refine lv_aload_n hx hb dX0_become_39 rfl (lv_at hl 0 rfl) ?_
  refine mm_get C0 hP iw_X0 0 rfl rfl 1 (by decide) fl_X0_22 rfl dX0_become_40 ?_
  refine lv_iload_n hx hb dX0_become_43 rfl (lv_at hl 1 rfl) ?_
  obtain ⟨h_9, hf⟩ := mm_cks hf
  refine mm_iast C0 hP hD hS 2 rfl h_9 dX0_become_44 (w2 := (wd_X0 cI cL cS cH a v_value v_done v_size l_8 (mm_is v_after v_done x1))) rfl (fun H locs hP hD hS => ?_)
  generalize el_10 : (mm_is v_after v_done x1) = l_10 at hP hD
  have hf := mm_nms hf el_10.symm
  refine lv_aload_n hx hb dX0_become_45 rfl (lv_at hl 0 rfl) ?_
  refine lv_dup hx hb dX0_become_46 rfl ?_
  refine mm_get C0 hP iw_X0 0 rfl rfl 1 (by decide) fl_X0_22 rfl dX0_become_47 ?_
  refine lv_iconst (v := 1) hx hb dX0_become_50 (by decide) ?_
  refine lv_iadd hx hb dX0_become_51 ?_
  refine lv_topi (fun y_11 ey_11 => ?_)
  have hf := mm_nms hf ey_11
  refine mm_put C0 hP hD hS iw_X0 tyX0 tyX0_ok nmX0 0 rfl rfl 1 (by decide) fl_X0_22 rfl rfl rfl (Nat.le_of_ble_eq_true rfl) dX0_become_52 (w2 := (wd_X0 cI cL cS cH a v_value y_11 v_size l_8 l_10)) rfl (fun H locs hP hD hS => ?_)
  refine lv_aload_n hx hb dX0_become_55 rfl (lv_at hl 0 rfl) ?_
  refine lv_aload_n hx hb dX0_become_56 rfl (lv_at hl 0 rfl) ?_
  refine mm_get C0 hP iw_X0 0 rfl rfl 1 (by decide) fl_X0_22 rfl dX0_become_57 ?_
  refine mm_put C0 hP hD hS iw_X0 tyX0 tyX0_ok nmX0 0 rfl rfl 2 (by decide) fl_X0_28 rfl rfl rfl (Nat.le_of_ble_eq_true rfl) dX0_become_60 (w2 := (wd_X0 cI cL cS cH a v_value y_11 y_11 l_8 l_10)) rfl (fun H locs hP hD hS => ?_)
  refine lv_aload_n hx hb dX0_become_63 rfl (lv_at hl 0 rfl) ?_
  refine lv_iload_n hx hb dX0_become_64 rfl (lv_at hl 1 rfl) ?_
  refine mm_put C0 hP hD hS iw_X0 tyX0 tyX0_ok nmX0 0 rfl rfl 0 (by decide) fl_X0_9 rfl rfl rfl (Nat.le_of_ble_eq_true rfl) dX0_become_65 (w2 := (wd_X0 cI cL cS cH a x1 y_11 y_11 l_8 l_10)) rfl (fun H locs hP hD hS => ?_)
  apply mm_sub5 hf
  exact mm_vret C0 hP hD hS dX0_become_68

def fX0_become (N : Nat) (x1 : Int32) (v_value : Int32) (v_done : Int32) (v_size : Int32) (v_before : List Int32) (v_after : List Int32) : Option (Int32 × Int32 × Int32 × List Int32 × List Int32) :=
    if x1 = v_value then
    (some (v_value, v_done, v_size, v_before, v_after))
    else (if v_done = (40 : Int32) then
    (mm_bd3 (fX0_forgetOldest N v_done v_before v_after) (fun (w_3 : Int32) (w_4 : List Int32) (w_5 : List Int32) =>
    fX0_become_22 N x1 v_value w_3 v_size w_4 w_5))
    else (fX0_become_22 N x1 v_value v_done v_size v_before v_after))

set_option maxHeartbeats 4000000 in
set_option maxRecDepth 100000 in
theorem ctX0_become {l : Launch} {D : va_G} {cI cL cS cH : ClassId} {a : Nat → Nat} {x1 : Int32} {v_value : Int32} {v_done : Int32} {v_size : Int32} {v_before : List Int32} {v_after : List Int32} {w_value : Int32} {w_done : Int32} {w_size : Int32} {w_before : List Int32} {w_after : List Int32} {N d : Nat} (hd : 2 ≤ d) (hf : fX0_become N x1 v_value v_done v_size v_before v_after = some (w_value, w_done, w_size, w_before, w_after)) : mm_Ct l yX0_become cX0_become 2 none d D (mm_T cI cL cS cH) [.ref (a 0), .int x1] (wd_X0 cI cL cS cH a v_value v_done v_size v_before v_after) (wd_X0 cI cL cS cH a w_value w_done w_size w_before w_after) none := by
  refine mm_of (by decide) (Nat.le_of_ble_eq_true rfl) ?_
  intro p e s m args below meth c A H locs ls C0 hP hD hA hS hl
  have C0 : mm_Cx p s m args meth c RX0 cX0_become 2 none D (mm_T cI cL cS cH) A := C0
  obtain ⟨hx, hb, hml, hown, hts, hr, hlocks, hK, hSt⟩ := id C0
  have hl : lv_has ls 2 [(0, .ref (a 0)), (1, .int x1)] := hl
  unfold fX0_become at hf
  refine lv_iload_n hx hb dX0_become_0 rfl (lv_at hl 1 rfl) ?_
  refine lv_aload_n hx hb dX0_become_1 rfl (lv_at hl 0 rfl) ?_
  refine mm_get C0 hP iw_X0 0 rfl rfl 0 (by decide) fl_X0_9 rfl dX0_become_2 ?_
  refine lv_icmp_ne (tgt := 9) hx hb dX0_become_5 (by decide) (fun c_1 => ?_) (fun c_1 => ?_)
  · have hf := mm_in hf c_1
    refine lv_aload_n hx hb dX0_become_9 rfl (lv_at hl 0 rfl) ?_
    refine mm_get C0 hP iw_X0 0 rfl rfl 1 (by decide) fl_X0_22 rfl dX0_become_10 ?_
    refine lv_bipush (v := 40) hx hb dX0_become_13 (by decide) ?_
    refine lv_icmp_ne (tgt := 22) hx hb dX0_become_15 (by decide) (fun c_2 => ?_) (fun c_2 => ?_)
    · have hf := mm_in hf c_2
      exact tX0_become_22 hd C0 hA N  _ _ _ _ _ _ H locs ls hf hP hD hS (lv_sub hl [0, 1] rfl)
    · have hf := mm_ip hf c_2
      refine lv_aload_n hx hb dX0_become_18 rfl (lv_at hl 0 rfl) ?_
      obtain ⟨w_3, w_4, w_5, hc_6, hf⟩ := mm_bd3s hf
      refine mm_callVF (q0 := 0) (ci := 0) (rest := []) C0 lk_X0_25 (ctX0_forgetOldest (a := a) (d := d - 1) (by omega) hc_6) (by omega) rfl hl.1 rfl (mm_cat rfl) dX0_become_19 hP hD hA hS rfl rfl (fun H locs hP hD hS => ?_)
      refine W.eq (g2 := F0 m 22 ls []) rfl ?_
      exact tX0_become_22 hd C0 hA N  _ _ _ _ _ _ H locs ls hf hP hD hS (lv_sub hl [0, 1] rfl)
  · have hf := mm_ip hf c_1
    apply mm_sub5 hf
    exact mm_vret C0 hP hD hS dX0_become_8

theorem nb_dX0_stepBack_0 : bls_w cX0_stepBack [(0, [42]), (1, [180, 0, 22]), (4, [158, 0, 26]), (7, [42]), (8, [89]), (9, [180, 0, 22]), (12, [4]), (13, [100]), (14, [181, 0, 22]), (17, [42]), (18, [42]), (19, [180, 0, 15])] := bls_of (by decide +kernel)
theorem dX0_stepBack_0 : decode cX0_stepBack 0 = .ok (.aload_n 0, 1) := op_42 nb_dX0_stepBack_0.1
set_option maxRecDepth 100000 in
theorem dX0_stepBack_1 : decode cX0_stepBack 1 = .ok (.getfield 22, 3) := (op_180 nb_dX0_stepBack_0.2.1).trans rfl
set_option maxRecDepth 100000 in
theorem dX0_stepBack_4 : decode cX0_stepBack 4 = .ok (.ifCond .le 26, 3) := (op_158 nb_dX0_stepBack_0.2.2.1).trans rfl
theorem dX0_stepBack_7 : decode cX0_stepBack 7 = .ok (.aload_n 0, 1) := op_42 nb_dX0_stepBack_0.2.2.2.1
theorem dX0_stepBack_8 : decode cX0_stepBack 8 = .ok (.dup, 1) := op_89 nb_dX0_stepBack_0.2.2.2.2.1
set_option maxRecDepth 100000 in
theorem dX0_stepBack_9 : decode cX0_stepBack 9 = .ok (.getfield 22, 3) := (op_180 nb_dX0_stepBack_0.2.2.2.2.2.1).trans rfl
theorem dX0_stepBack_12 : decode cX0_stepBack 12 = .ok (.iconst 1, 1) := op_4 nb_dX0_stepBack_0.2.2.2.2.2.2.1
theorem dX0_stepBack_13 : decode cX0_stepBack 13 = .ok (.isub, 1) := op_100 nb_dX0_stepBack_0.2.2.2.2.2.2.2.1
set_option maxRecDepth 100000 in
theorem dX0_stepBack_14 : decode cX0_stepBack 14 = .ok (.putfield 22, 3) := (op_181 nb_dX0_stepBack_0.2.2.2.2.2.2.2.2.1).trans rfl
theorem dX0_stepBack_17 : decode cX0_stepBack 17 = .ok (.aload_n 0, 1) := op_42 nb_dX0_stepBack_0.2.2.2.2.2.2.2.2.2.1
theorem dX0_stepBack_18 : decode cX0_stepBack 18 = .ok (.aload_n 0, 1) := op_42 nb_dX0_stepBack_0.2.2.2.2.2.2.2.2.2.2.1
set_option maxRecDepth 100000 in
theorem dX0_stepBack_19 : decode cX0_stepBack 19 = .ok (.getfield 15, 3) := (op_180 nb_dX0_stepBack_0.2.2.2.2.2.2.2.2.2.2.2.1).trans rfl
theorem nb_dX0_stepBack_22 : bls_w cX0_stepBack [(22, [42]), (23, [180, 0, 22]), (26, [46]), (27, [181, 0, 9]), (30, [177])] := bls_of (by decide +kernel)
theorem dX0_stepBack_22 : decode cX0_stepBack 22 = .ok (.aload_n 0, 1) := op_42 nb_dX0_stepBack_22.1
set_option maxRecDepth 100000 in
theorem dX0_stepBack_23 : decode cX0_stepBack 23 = .ok (.getfield 22, 3) := (op_180 nb_dX0_stepBack_22.2.1).trans rfl
theorem dX0_stepBack_26 : decode cX0_stepBack 26 = .ok (.iaload, 1) := op_46 nb_dX0_stepBack_22.2.2.1
set_option maxRecDepth 100000 in
theorem dX0_stepBack_27 : decode cX0_stepBack 27 = .ok (.putfield 9, 3) := (op_181 nb_dX0_stepBack_22.2.2.2.1).trans rfl
theorem dX0_stepBack_30 : decode cX0_stepBack 30 = .ok (.return_, 1) := op_177 nb_dX0_stepBack_22.2.2.2.2.1
def fX0_stepBack (N : Nat) (v_value : Int32) (v_done : Int32) (v_before : List Int32) : Option (Int32 × Int32) :=
    if v_done ≤ 0 then
    (some (v_value, v_done))
    else (mm_nm ((v_done - (1 : Int32))) (fun (y_2 : Int32) =>
    mm_ck (mm_inb y_2 v_before.length) (mm_nm ((mm_ig v_before y_2)) (fun (y_4 : Int32) =>
    some (y_4, y_2)))))

set_option maxHeartbeats 4000000 in
set_option maxRecDepth 100000 in
theorem ctX0_stepBack {l : Launch} {D : va_G} {cI cL cS cH : ClassId} {a : Nat → Nat}  {v_value : Int32} {v_done : Int32} {v_size : Int32} {v_before : List Int32} {v_after : List Int32} {w_value : Int32} {w_done : Int32} {N d : Nat} (hd : 1 ≤ d) (hf : fX0_stepBack N v_value v_done v_before = some (w_value, w_done)) : mm_Ct l yX0_stepBack cX0_stepBack 1 none d D (mm_T cI cL cS cH) [.ref (a 0)] (wd_X0 cI cL cS cH a v_value v_done v_size v_before v_after) (wd_X0 cI cL cS cH a w_value w_done v_size v_before v_after) none := by
  refine mm_of (by decide) (Nat.le_of_ble_eq_true rfl) ?_
  intro p e s m args below meth c A H locs ls C0 hP hD hA hS hl
  have C0 : mm_Cx p s m args meth c RX0 cX0_stepBack 1 none D (mm_T cI cL cS cH) A := C0
  obtain ⟨hx, hb, hml, hown, hts, hr, hlocks, hK, hSt⟩ := id C0
  have hl : lv_has ls 1 [(0, .ref (a 0))] := hl
  unfold fX0_stepBack at hf
  refine lv_aload_n hx hb dX0_stepBack_0 rfl (lv_at hl 0 rfl) ?_
  refine mm_get C0 hP iw_X0 0 rfl rfl 1 (by decide) fl_X0_22 rfl dX0_stepBack_1 ?_
  refine lv_if_le (tgt := 30) hx hb dX0_stepBack_4 (by decide) (fun c_1 => ?_) (fun c_1 => ?_)
  · have hf := mm_ip hf c_1
    apply mm_sub2 hf
    exact mm_vret C0 hP hD hS dX0_stepBack_30
  · have hf := mm_in hf c_1
    refine lv_aload_n hx hb dX0_stepBack_7 rfl (lv_at hl 0 rfl) ?_
    refine lv_dup hx hb dX0_stepBack_8 rfl ?_
    refine mm_get C0 hP iw_X0 0 rfl rfl 1 (by decide) fl_X0_22 rfl dX0_stepBack_9 ?_
    refine lv_iconst (v := 1) hx hb dX0_stepBack_12 (by decide) ?_
    refine lv_isub hx hb dX0_stepBack_13 ?_
    refine lv_topi (fun y_2 ey_2 => ?_)
    have hf := mm_nms hf ey_2
    refine mm_put C0 hP hD hS iw_X0 tyX0 tyX0_ok nmX0 0 rfl rfl 1 (by decide) fl_X0_22 rfl rfl rfl (Nat.le_of_ble_eq_true rfl) dX0_stepBack_14 (w2 := (wd_X0 cI cL cS cH a v_value y_2 v_size v_before v_after)) rfl (fun H locs hP hD hS => ?_)
    refine lv_aload_n hx hb dX0_stepBack_17 rfl (lv_at hl 0 rfl) ?_
    refine lv_aload_n hx hb dX0_stepBack_18 rfl (lv_at hl 0 rfl) ?_
    refine mm_get C0 hP iw_X0 0 rfl rfl 3 (by decide) fl_X0_15 rfl dX0_stepBack_19 ?_
    refine lv_aload_n hx hb dX0_stepBack_22 rfl (lv_at hl 0 rfl) ?_
    refine mm_get C0 hP iw_X0 0 rfl rfl 1 (by decide) fl_X0_22 rfl dX0_stepBack_23 ?_
    obtain ⟨h_3, hf⟩ := mm_cks hf
    refine mm_iald C0 hP 1 rfl h_3 dX0_stepBack_26 ?_
    refine lv_topi (fun y_4 ey_4 => ?_)
    have hf := mm_nms hf ey_4
    refine mm_put C0 hP hD hS iw_X0 tyX0 tyX0_ok nmX0 0 rfl rfl 0 (by decide) fl_X0_9 rfl rfl rfl (Nat.le_of_ble_eq_true rfl) dX0_stepBack_27 (w2 := (wd_X0 cI cL cS cH a y_4 y_2 v_size v_before v_after)) rfl (fun H locs hP hD hS => ?_)
    apply mm_sub2 hf
    exact mm_vret C0 hP hD hS dX0_stepBack_30

theorem nb_dX0_stepOn_0 : bls_w cX0_stepOn [(0, [42]), (1, [180, 0, 22]), (4, [42]), (5, [180, 0, 28]), (8, [162, 0, 26]), (11, [42]), (12, [42]), (13, [180, 0, 19]), (16, [42]), (17, [180, 0, 22]), (20, [46]), (21, [181, 0, 9])] := bls_of (by decide +kernel)
theorem dX0_stepOn_0 : decode cX0_stepOn 0 = .ok (.aload_n 0, 1) := op_42 nb_dX0_stepOn_0.1
set_option maxRecDepth 100000 in
theorem dX0_stepOn_1 : decode cX0_stepOn 1 = .ok (.getfield 22, 3) := (op_180 nb_dX0_stepOn_0.2.1).trans rfl
theorem dX0_stepOn_4 : decode cX0_stepOn 4 = .ok (.aload_n 0, 1) := op_42 nb_dX0_stepOn_0.2.2.1
set_option maxRecDepth 100000 in
theorem dX0_stepOn_5 : decode cX0_stepOn 5 = .ok (.getfield 28, 3) := (op_180 nb_dX0_stepOn_0.2.2.2.1).trans rfl
set_option maxRecDepth 100000 in
theorem dX0_stepOn_8 : decode cX0_stepOn 8 = .ok (.if_icmp .ge 26, 3) := (op_162 nb_dX0_stepOn_0.2.2.2.2.1).trans rfl
theorem dX0_stepOn_11 : decode cX0_stepOn 11 = .ok (.aload_n 0, 1) := op_42 nb_dX0_stepOn_0.2.2.2.2.2.1
theorem dX0_stepOn_12 : decode cX0_stepOn 12 = .ok (.aload_n 0, 1) := op_42 nb_dX0_stepOn_0.2.2.2.2.2.2.1
set_option maxRecDepth 100000 in
theorem dX0_stepOn_13 : decode cX0_stepOn 13 = .ok (.getfield 19, 3) := (op_180 nb_dX0_stepOn_0.2.2.2.2.2.2.2.1).trans rfl
theorem dX0_stepOn_16 : decode cX0_stepOn 16 = .ok (.aload_n 0, 1) := op_42 nb_dX0_stepOn_0.2.2.2.2.2.2.2.2.1
set_option maxRecDepth 100000 in
theorem dX0_stepOn_17 : decode cX0_stepOn 17 = .ok (.getfield 22, 3) := (op_180 nb_dX0_stepOn_0.2.2.2.2.2.2.2.2.2.1).trans rfl
theorem dX0_stepOn_20 : decode cX0_stepOn 20 = .ok (.iaload, 1) := op_46 nb_dX0_stepOn_0.2.2.2.2.2.2.2.2.2.2.1
set_option maxRecDepth 100000 in
theorem dX0_stepOn_21 : decode cX0_stepOn 21 = .ok (.putfield 9, 3) := (op_181 nb_dX0_stepOn_0.2.2.2.2.2.2.2.2.2.2.2.1).trans rfl
theorem nb_dX0_stepOn_24 : bls_w cX0_stepOn [(24, [42]), (25, [89]), (26, [180, 0, 22]), (29, [4]), (30, [96]), (31, [181, 0, 22]), (34, [177])] := bls_of (by decide +kernel)
theorem dX0_stepOn_24 : decode cX0_stepOn 24 = .ok (.aload_n 0, 1) := op_42 nb_dX0_stepOn_24.1
theorem dX0_stepOn_25 : decode cX0_stepOn 25 = .ok (.dup, 1) := op_89 nb_dX0_stepOn_24.2.1
set_option maxRecDepth 100000 in
theorem dX0_stepOn_26 : decode cX0_stepOn 26 = .ok (.getfield 22, 3) := (op_180 nb_dX0_stepOn_24.2.2.1).trans rfl
theorem dX0_stepOn_29 : decode cX0_stepOn 29 = .ok (.iconst 1, 1) := op_4 nb_dX0_stepOn_24.2.2.2.1
theorem dX0_stepOn_30 : decode cX0_stepOn 30 = .ok (.iadd, 1) := op_96 nb_dX0_stepOn_24.2.2.2.2.1
set_option maxRecDepth 100000 in
theorem dX0_stepOn_31 : decode cX0_stepOn 31 = .ok (.putfield 22, 3) := (op_181 nb_dX0_stepOn_24.2.2.2.2.2.1).trans rfl
theorem dX0_stepOn_34 : decode cX0_stepOn 34 = .ok (.return_, 1) := op_177 nb_dX0_stepOn_24.2.2.2.2.2.2.1
def fX0_stepOn (N : Nat) (v_value : Int32) (v_done : Int32) (v_size : Int32) (v_after : List Int32) : Option (Int32 × Int32) :=
    if v_size ≤ v_done then
    (some (v_value, v_done))
    else (mm_ck (mm_inb v_done v_after.length) (mm_nm ((mm_ig v_after v_done)) (fun (y_3 : Int32) =>
    mm_nm ((v_done + (1 : Int32))) (fun (y_4 : Int32) =>
    some (y_3, y_4)))))

set_option maxHeartbeats 4000000 in
set_option maxRecDepth 100000 in
theorem ctX0_stepOn {l : Launch} {D : va_G} {cI cL cS cH : ClassId} {a : Nat → Nat}  {v_value : Int32} {v_done : Int32} {v_size : Int32} {v_before : List Int32} {v_after : List Int32} {w_value : Int32} {w_done : Int32} {N d : Nat} (hd : 1 ≤ d) (hf : fX0_stepOn N v_value v_done v_size v_after = some (w_value, w_done)) : mm_Ct l yX0_stepOn cX0_stepOn 1 none d D (mm_T cI cL cS cH) [.ref (a 0)] (wd_X0 cI cL cS cH a v_value v_done v_size v_before v_after) (wd_X0 cI cL cS cH a w_value w_done v_size v_before v_after) none := by
  refine mm_of (by decide) (Nat.le_of_ble_eq_true rfl) ?_
  intro p e s m args below meth c A H locs ls C0 hP hD hA hS hl
  have C0 : mm_Cx p s m args meth c RX0 cX0_stepOn 1 none D (mm_T cI cL cS cH) A := C0
  obtain ⟨hx, hb, hml, hown, hts, hr, hlocks, hK, hSt⟩ := id C0
  have hl : lv_has ls 1 [(0, .ref (a 0))] := hl
  unfold fX0_stepOn at hf
  refine lv_aload_n hx hb dX0_stepOn_0 rfl (lv_at hl 0 rfl) ?_
  refine mm_get C0 hP iw_X0 0 rfl rfl 1 (by decide) fl_X0_22 rfl dX0_stepOn_1 ?_
  refine lv_aload_n hx hb dX0_stepOn_4 rfl (lv_at hl 0 rfl) ?_
  refine mm_get C0 hP iw_X0 0 rfl rfl 2 (by decide) fl_X0_28 rfl dX0_stepOn_5 ?_
  refine lv_icmp_ge (tgt := 34) hx hb dX0_stepOn_8 (by decide) (fun c_1 => ?_) (fun c_1 => ?_)
  · have hf := mm_ip hf c_1
    apply mm_sub2 hf
    exact mm_vret C0 hP hD hS dX0_stepOn_34
  · have hf := mm_in hf c_1
    refine lv_aload_n hx hb dX0_stepOn_11 rfl (lv_at hl 0 rfl) ?_
    refine lv_aload_n hx hb dX0_stepOn_12 rfl (lv_at hl 0 rfl) ?_
    refine mm_get C0 hP iw_X0 0 rfl rfl 4 (by decide) fl_X0_19 rfl dX0_stepOn_13 ?_
    refine lv_aload_n hx hb dX0_stepOn_16 rfl (lv_at hl 0 rfl) ?_
    refine mm_get C0 hP iw_X0 0 rfl rfl 1 (by decide) fl_X0_22 rfl dX0_stepOn_17 ?_
    obtain ⟨h_2, hf⟩ := mm_cks hf
    refine mm_iald C0 hP 2 rfl h_2 dX0_stepOn_20 ?_
    refine lv_topi (fun y_3 ey_3 => ?_)
    have hf := mm_nms hf ey_3
    refine mm_put C0 hP hD hS iw_X0 tyX0 tyX0_ok nmX0 0 rfl rfl 0 (by decide) fl_X0_9 rfl rfl rfl (Nat.le_of_ble_eq_true rfl) dX0_stepOn_21 (w2 := (wd_X0 cI cL cS cH a y_3 v_done v_size v_before v_after)) rfl (fun H locs hP hD hS => ?_)
    refine lv_aload_n hx hb dX0_stepOn_24 rfl (lv_at hl 0 rfl) ?_
    refine lv_dup hx hb dX0_stepOn_25 rfl ?_
    refine mm_get C0 hP iw_X0 0 rfl rfl 1 (by decide) fl_X0_22 rfl dX0_stepOn_26 ?_
    refine lv_iconst (v := 1) hx hb dX0_stepOn_29 (by decide) ?_
    refine lv_iadd hx hb dX0_stepOn_30 ?_
    refine lv_topi (fun y_4 ey_4 => ?_)
    have hf := mm_nms hf ey_4
    refine mm_put C0 hP hD hS iw_X0 tyX0 tyX0_ok nmX0 0 rfl rfl 1 (by decide) fl_X0_22 rfl rfl rfl (Nat.le_of_ble_eq_true rfl) dX0_stepOn_31 (w2 := (wd_X0 cI cL cS cH a y_3 y_4 v_size v_before v_after)) rfl (fun H locs hP hD hS => ?_)
    apply mm_sub2 hf
    exact mm_vret C0 hP hD hS dX0_stepOn_34

theorem nb_dX1_make_0 : bls_w cX1_make [(0, [42]), (1, [180, 0, 18]), (4, [16, 50]), (6, [161, 0, 5]), (9, [3]), (10, [172]), (11, [42]), (12, [180, 0, 9]), (15, [42]), (16, [180, 0, 18]), (19, [27]), (20, [79])] := bls_of (by decide +kernel)
theorem dX1_make_0 : decode cX1_make 0 = .ok (.aload_n 0, 1) := op_42 nb_dX1_make_0.1
set_option maxRecDepth 100000 in
theorem dX1_make_1 : decode cX1_make 1 = .ok (.getfield 18, 3) := (op_180 nb_dX1_make_0.2.1).trans rfl
set_option maxRecDepth 100000 in
theorem dX1_make_4 : decode cX1_make 4 = .ok (.bipush 50, 2) := (op_16 nb_dX1_make_0.2.2.1).trans rfl
set_option maxRecDepth 100000 in
theorem dX1_make_6 : decode cX1_make 6 = .ok (.if_icmp .lt 5, 3) := (op_161 nb_dX1_make_0.2.2.2.1).trans rfl
theorem dX1_make_9 : decode cX1_make 9 = .ok (.iconst 0, 1) := op_3 nb_dX1_make_0.2.2.2.2.1
theorem dX1_make_10 : decode cX1_make 10 = .ok (.ireturn, 1) := op_172 nb_dX1_make_0.2.2.2.2.2.1
theorem dX1_make_11 : decode cX1_make 11 = .ok (.aload_n 0, 1) := op_42 nb_dX1_make_0.2.2.2.2.2.2.1
set_option maxRecDepth 100000 in
theorem dX1_make_12 : decode cX1_make 12 = .ok (.getfield 9, 3) := (op_180 nb_dX1_make_0.2.2.2.2.2.2.2.1).trans rfl
theorem dX1_make_15 : decode cX1_make 15 = .ok (.aload_n 0, 1) := op_42 nb_dX1_make_0.2.2.2.2.2.2.2.2.1
set_option maxRecDepth 100000 in
theorem dX1_make_16 : decode cX1_make 16 = .ok (.getfield 18, 3) := (op_180 nb_dX1_make_0.2.2.2.2.2.2.2.2.2.1).trans rfl
theorem dX1_make_19 : decode cX1_make 19 = .ok (.iload_n 1, 1) := op_27 nb_dX1_make_0.2.2.2.2.2.2.2.2.2.2.1
theorem dX1_make_20 : decode cX1_make 20 = .ok (.iastore, 1) := op_79 nb_dX1_make_0.2.2.2.2.2.2.2.2.2.2.2.1
theorem nb_dX1_make_21 : bls_w cX1_make [(21, [42]), (22, [89]), (23, [180, 0, 18]), (26, [4]), (27, [96]), (28, [181, 0, 18]), (31, [4]), (32, [172])] := bls_of (by decide +kernel)
theorem dX1_make_21 : decode cX1_make 21 = .ok (.aload_n 0, 1) := op_42 nb_dX1_make_21.1
theorem dX1_make_22 : decode cX1_make 22 = .ok (.dup, 1) := op_89 nb_dX1_make_21.2.1
set_option maxRecDepth 100000 in
theorem dX1_make_23 : decode cX1_make 23 = .ok (.getfield 18, 3) := (op_180 nb_dX1_make_21.2.2.1).trans rfl
theorem dX1_make_26 : decode cX1_make 26 = .ok (.iconst 1, 1) := op_4 nb_dX1_make_21.2.2.2.1
theorem dX1_make_27 : decode cX1_make 27 = .ok (.iadd, 1) := op_96 nb_dX1_make_21.2.2.2.2.1
set_option maxRecDepth 100000 in
theorem dX1_make_28 : decode cX1_make 28 = .ok (.putfield 18, 3) := (op_181 nb_dX1_make_21.2.2.2.2.2.1).trans rfl
theorem dX1_make_31 : decode cX1_make 31 = .ok (.iconst 1, 1) := op_4 nb_dX1_make_21.2.2.2.2.2.2.1
theorem dX1_make_32 : decode cX1_make 32 = .ok (.ireturn, 1) := op_172 nb_dX1_make_21.2.2.2.2.2.2.2.1
def fX1_make (N : Nat) (x1 : Int32) (v_size : Int32) (v_kinds : List Int32) : Option (Bool × Int32 × List Int32) :=
    if v_size < (50 : Int32) then
    (mm_ck (mm_inb v_size v_kinds.length) (mm_nm (mm_is v_kinds v_size x1) (fun (l_3 : List Int32) =>
    mm_nm ((v_size + (1 : Int32))) (fun (y_4 : Int32) =>
    some (true, y_4, l_3)))))
    else (some (false, v_size, v_kinds))

set_option maxHeartbeats 4000000 in
set_option maxRecDepth 100000 in
theorem ctX1_make {l : Launch} {D : va_G} {cI cL cS cH : ClassId} {a : Nat → Nat} {x1 : Int32} {v_size : Int32} {v_ran : Int32} {v_number : Int32} {v_kinds : List Int32} {v_trace : List Int32} {r : Bool} {w_size : Int32} {w_kinds : List Int32} {N d : Nat} (hd : 1 ≤ d) (hf : fX1_make N x1 v_size v_kinds = some (r, w_size, w_kinds)) : mm_Ct l yX1_make cX1_make 2 (some .boolean) d D (mm_T cI cL cS cH) [.ref (a 0), .int x1] (wd_X1 cI cL cS cH a v_size v_ran v_number v_kinds v_trace) (wd_X1 cI cL cS cH a w_size v_ran v_number w_kinds v_trace) (some (.int (mm_b r))) := by
  refine mm_of (by decide) (Nat.le_of_ble_eq_true rfl) ?_
  intro p e s m args below meth c A H locs ls C0 hP hD hA hS hl
  have C0 : mm_Cx p s m args meth c RX1 cX1_make 2 (some .boolean) D (mm_T cI cL cS cH) A := C0
  obtain ⟨hx, hb, hml, hown, hts, hr, hlocks, hK, hSt⟩ := id C0
  have hl : lv_has ls 2 [(0, .ref (a 0)), (1, .int x1)] := hl
  unfold fX1_make at hf
  refine lv_aload_n hx hb dX1_make_0 rfl (lv_at hl 0 rfl) ?_
  refine mm_get C0 hP iw_X1 0 rfl rfl 0 (by decide) fl_X1_18 rfl dX1_make_1 ?_
  refine lv_bipush (v := 50) hx hb dX1_make_4 (by decide) ?_
  refine lv_icmp_lt (tgt := 11) hx hb dX1_make_6 (by decide) (fun c_1 => ?_) (fun c_1 => ?_)
  · have hf := mm_ip hf c_1
    refine lv_aload_n hx hb dX1_make_11 rfl (lv_at hl 0 rfl) ?_
    refine mm_get C0 hP iw_X1 0 rfl rfl 2 (by decide) fl_X1_9 rfl dX1_make_12 ?_
    refine lv_aload_n hx hb dX1_make_15 rfl (lv_at hl 0 rfl) ?_
    refine mm_get C0 hP iw_X1 0 rfl rfl 0 (by decide) fl_X1_18 rfl dX1_make_16 ?_
    refine lv_iload_n hx hb dX1_make_19 rfl (lv_at hl 1 rfl) ?_
    obtain ⟨h_2, hf⟩ := mm_cks hf
    refine mm_iast C0 hP hD hS 1 rfl h_2 dX1_make_20 (w2 := (wd_X1 cI cL cS cH a v_size v_ran v_number (mm_is v_kinds v_size x1) v_trace)) rfl (fun H locs hP hD hS => ?_)
    generalize el_3 : (mm_is v_kinds v_size x1) = l_3 at hP hD
    have hf := mm_nms hf el_3.symm
    refine lv_aload_n hx hb dX1_make_21 rfl (lv_at hl 0 rfl) ?_
    refine lv_dup hx hb dX1_make_22 rfl ?_
    refine mm_get C0 hP iw_X1 0 rfl rfl 0 (by decide) fl_X1_18 rfl dX1_make_23 ?_
    refine lv_iconst (v := 1) hx hb dX1_make_26 (by decide) ?_
    refine lv_iadd hx hb dX1_make_27 ?_
    refine lv_topi (fun y_4 ey_4 => ?_)
    have hf := mm_nms hf ey_4
    refine mm_put C0 hP hD hS iw_X1 tyX1 tyX1_ok nmX1 0 rfl rfl 0 (by decide) fl_X1_18 rfl rfl rfl (Nat.le_of_ble_eq_true rfl) dX1_make_28 (w2 := (wd_X1 cI cL cS cH a y_4 v_ran v_number l_3 v_trace)) rfl (fun H locs hP hD hS => ?_)
    refine lv_iconst (v := 1) hx hb dX1_make_31 (by decide) ?_
    apply mm_sub3 hf
    exact mm_zret (v := true) C0 hP hD hS dX1_make_32 (by decide)
  · have hf := mm_in hf c_1
    refine lv_iconst (v := 0) hx hb dX1_make_9 (by decide) ?_
    apply mm_sub3 hf
    exact mm_zret (v := false) C0 hP hD hS dX1_make_10 (by decide)

theorem nb_dX1_has_0 : bls_w cX1_has [(0, [27]), (1, [155, 0, 15]), (4, [27]), (5, [42]), (6, [180, 0, 18]), (9, [162, 0, 7]), (12, [4]), (13, [167, 0, 4]), (16, [3]), (17, [172])] := bls_of (by decide +kernel)
theorem dX1_has_0 : decode cX1_has 0 = .ok (.iload_n 1, 1) := op_27 nb_dX1_has_0.1
set_option maxRecDepth 100000 in
theorem dX1_has_1 : decode cX1_has 1 = .ok (.ifCond .lt 15, 3) := (op_155 nb_dX1_has_0.2.1).trans rfl
theorem dX1_has_4 : decode cX1_has 4 = .ok (.iload_n 1, 1) := op_27 nb_dX1_has_0.2.2.1
theorem dX1_has_5 : decode cX1_has 5 = .ok (.aload_n 0, 1) := op_42 nb_dX1_has_0.2.2.2.1
set_option maxRecDepth 100000 in
theorem dX1_has_6 : decode cX1_has 6 = .ok (.getfield 18, 3) := (op_180 nb_dX1_has_0.2.2.2.2.1).trans rfl
set_option maxRecDepth 100000 in
theorem dX1_has_9 : decode cX1_has 9 = .ok (.if_icmp .ge 7, 3) := (op_162 nb_dX1_has_0.2.2.2.2.2.1).trans rfl
theorem dX1_has_12 : decode cX1_has 12 = .ok (.iconst 1, 1) := op_4 nb_dX1_has_0.2.2.2.2.2.2.1
set_option maxRecDepth 100000 in
theorem dX1_has_13 : decode cX1_has 13 = .ok (.goto 4, 3) := (op_167 nb_dX1_has_0.2.2.2.2.2.2.2.1).trans rfl
theorem dX1_has_16 : decode cX1_has 16 = .ok (.iconst 0, 1) := op_3 nb_dX1_has_0.2.2.2.2.2.2.2.2.1
theorem dX1_has_17 : decode cX1_has 17 = .ok (.ireturn, 1) := op_172 nb_dX1_has_0.2.2.2.2.2.2.2.2.2.1
def fX1_has (N : Nat) (x1 : Int32) (v_size : Int32) : Option (Bool) :=
    if x1 < 0 then
    (some (false))
    else (if v_size ≤ x1 then
    (some (false))
    else (some (true)))

set_option maxHeartbeats 4000000 in
set_option maxRecDepth 100000 in
theorem ctX1_has {l : Launch} {D : va_G} {cI cL cS cH : ClassId} {a : Nat → Nat} {x1 : Int32} {v_size : Int32} {v_ran : Int32} {v_number : Int32} {v_kinds : List Int32} {v_trace : List Int32} {r : Bool} {N d : Nat} (hd : 1 ≤ d) (hf : fX1_has N x1 v_size = some r) : mm_Ct l yX1_has cX1_has 2 (some .boolean) d D (mm_T cI cL cS cH) [.ref (a 0), .int x1] (wd_X1 cI cL cS cH a v_size v_ran v_number v_kinds v_trace) (wd_X1 cI cL cS cH a v_size v_ran v_number v_kinds v_trace) (some (.int (mm_b r))) := by
  refine mm_of (by decide) (Nat.le_of_ble_eq_true rfl) ?_
  intro p e s m args below meth c A H locs ls C0 hP hD hA hS hl
  have C0 : mm_Cx p s m args meth c RX1 cX1_has 2 (some .boolean) D (mm_T cI cL cS cH) A := C0
  obtain ⟨hx, hb, hml, hown, hts, hr, hlocks, hK, hSt⟩ := id C0
  have hl : lv_has ls 2 [(0, .ref (a 0)), (1, .int x1)] := hl
  unfold fX1_has at hf
  refine lv_iload_n hx hb dX1_has_0 rfl (lv_at hl 1 rfl) ?_
  refine lv_if_lt (tgt := 16) hx hb dX1_has_1 (by decide) (fun c_1 => ?_) (fun c_1 => ?_)
  · have hf := mm_ip hf c_1
    refine lv_iconst (v := 0) hx hb dX1_has_16 (by decide) ?_
    obtain rfl := mm_inj1 hf
    exact mm_zret (v := false) C0 hP hD hS dX1_has_17 (by decide)
  · have hf := mm_in hf c_1
    refine lv_iload_n hx hb dX1_has_4 rfl (lv_at hl 1 rfl) ?_
    refine lv_aload_n hx hb dX1_has_5 rfl (lv_at hl 0 rfl) ?_
    refine mm_get C0 hP iw_X1 0 rfl rfl 0 (by decide) fl_X1_18 rfl dX1_has_6 ?_
    refine lv_icmp_ge (tgt := 16) hx hb dX1_has_9 (by decide) (fun c_2 => ?_) (fun c_2 => ?_)
    · have hf := mm_ip hf c_2
      refine lv_iconst (v := 0) hx hb dX1_has_16 (by decide) ?_
      obtain rfl := mm_inj1 hf
      exact mm_zret (v := false) C0 hP hD hS dX1_has_17 (by decide)
    · have hf := mm_in hf c_2
      refine lv_iconst (v := 1) hx hb dX1_has_12 (by decide) ?_
      refine lv_goto (tgt := 17) hx hb dX1_has_13 (by decide) ?_
      obtain rfl := mm_inj1 hf
      exact mm_zret (v := true) C0 hP hD hS dX1_has_17 (by decide)

theorem nb_dX1_isUnder_0 : bls_w cX1_isUnder [(0, [42]), (1, [27]), (2, [182, 0, 22]), (5, [154, 0, 5]), (8, [3]), (9, [172]), (10, [42]), (11, [180, 0, 9]), (14, [27]), (15, [46]), (16, [62]), (17, [3])] := bls_of (by decide +kernel)
theorem dX1_isUnder_0 : decode cX1_isUnder 0 = .ok (.aload_n 0, 1) := op_42 nb_dX1_isUnder_0.1
theorem dX1_isUnder_1 : decode cX1_isUnder 1 = .ok (.iload_n 1, 1) := op_27 nb_dX1_isUnder_0.2.1
set_option maxRecDepth 100000 in
theorem dX1_isUnder_2 : decode cX1_isUnder 2 = .ok (.invokevirtual 22, 3) := (op_182 nb_dX1_isUnder_0.2.2.1).trans rfl
set_option maxRecDepth 100000 in
theorem dX1_isUnder_5 : decode cX1_isUnder 5 = .ok (.ifCond .ne 5, 3) := (op_154 nb_dX1_isUnder_0.2.2.2.1).trans rfl
theorem dX1_isUnder_8 : decode cX1_isUnder 8 = .ok (.iconst 0, 1) := op_3 nb_dX1_isUnder_0.2.2.2.2.1
theorem dX1_isUnder_9 : decode cX1_isUnder 9 = .ok (.ireturn, 1) := op_172 nb_dX1_isUnder_0.2.2.2.2.2.1
theorem dX1_isUnder_10 : decode cX1_isUnder 10 = .ok (.aload_n 0, 1) := op_42 nb_dX1_isUnder_0.2.2.2.2.2.2.1
set_option maxRecDepth 100000 in
theorem dX1_isUnder_11 : decode cX1_isUnder 11 = .ok (.getfield 9, 3) := (op_180 nb_dX1_isUnder_0.2.2.2.2.2.2.2.1).trans rfl
theorem dX1_isUnder_14 : decode cX1_isUnder 14 = .ok (.iload_n 1, 1) := op_27 nb_dX1_isUnder_0.2.2.2.2.2.2.2.2.1
theorem dX1_isUnder_15 : decode cX1_isUnder 15 = .ok (.iaload, 1) := op_46 nb_dX1_isUnder_0.2.2.2.2.2.2.2.2.2.1
theorem dX1_isUnder_16 : decode cX1_isUnder 16 = .ok (.istore_n 3, 1) := op_62 nb_dX1_isUnder_0.2.2.2.2.2.2.2.2.2.2.1
theorem dX1_isUnder_17 : decode cX1_isUnder 17 = .ok (.iconst 0, 1) := op_3 nb_dX1_isUnder_0.2.2.2.2.2.2.2.2.2.2.2.1
theorem nb_dX1_isUnder_18 : bls_w cX1_isUnder [(18, [54, 4]), (20, [21, 4]), (22, [16, 8]), (24, [162, 0, 26]), (27, [29]), (28, [155, 0, 22]), (31, [29]), (32, [28]), (33, [160, 0, 5]), (36, [4]), (37, [172]), (38, [178, 0, 26])] := bls_of (by decide +kernel)
set_option maxRecDepth 100000 in
theorem dX1_isUnder_18 : decode cX1_isUnder 18 = .ok (.istore 4, 2) := (op_54 nb_dX1_isUnder_18.1).trans rfl
set_option maxRecDepth 100000 in
theorem dX1_isUnder_20 : decode cX1_isUnder 20 = .ok (.iload 4, 2) := (op_21 nb_dX1_isUnder_18.2.1).trans rfl
set_option maxRecDepth 100000 in
theorem dX1_isUnder_22 : decode cX1_isUnder 22 = .ok (.bipush 8, 2) := (op_16 nb_dX1_isUnder_18.2.2.1).trans rfl
set_option maxRecDepth 100000 in
theorem dX1_isUnder_24 : decode cX1_isUnder 24 = .ok (.if_icmp .ge 26, 3) := (op_162 nb_dX1_isUnder_18.2.2.2.1).trans rfl
theorem dX1_isUnder_27 : decode cX1_isUnder 27 = .ok (.iload_n 3, 1) := op_29 nb_dX1_isUnder_18.2.2.2.2.1
set_option maxRecDepth 100000 in
theorem dX1_isUnder_28 : decode cX1_isUnder 28 = .ok (.ifCond .lt 22, 3) := (op_155 nb_dX1_isUnder_18.2.2.2.2.2.1).trans rfl
theorem dX1_isUnder_31 : decode cX1_isUnder 31 = .ok (.iload_n 3, 1) := op_29 nb_dX1_isUnder_18.2.2.2.2.2.2.1
theorem dX1_isUnder_32 : decode cX1_isUnder 32 = .ok (.iload_n 2, 1) := op_28 nb_dX1_isUnder_18.2.2.2.2.2.2.2.1
set_option maxRecDepth 100000 in
theorem dX1_isUnder_33 : decode cX1_isUnder 33 = .ok (.if_icmp .ne 5, 3) := (op_160 nb_dX1_isUnder_18.2.2.2.2.2.2.2.2.1).trans rfl
theorem dX1_isUnder_36 : decode cX1_isUnder 36 = .ok (.iconst 1, 1) := op_4 nb_dX1_isUnder_18.2.2.2.2.2.2.2.2.2.1
theorem dX1_isUnder_37 : decode cX1_isUnder 37 = .ok (.ireturn, 1) := op_172 nb_dX1_isUnder_18.2.2.2.2.2.2.2.2.2.2.1
set_option maxRecDepth 100000 in
theorem dX1_isUnder_38 : decode cX1_isUnder 38 = .ok (.getstatic 26, 3) := (op_178 nb_dX1_isUnder_18.2.2.2.2.2.2.2.2.2.2.2.1).trans rfl
theorem nb_dX1_isUnder_41 : bls_w cX1_isUnder [(41, [29]), (42, [46]), (43, [62]), (44, [132, 4, 1]), (47, [167, 255, 229]), (50, [3]), (51, [172])] := bls_of (by decide +kernel)
theorem dX1_isUnder_41 : decode cX1_isUnder 41 = .ok (.iload_n 3, 1) := op_29 nb_dX1_isUnder_41.1
theorem dX1_isUnder_42 : decode cX1_isUnder 42 = .ok (.iaload, 1) := op_46 nb_dX1_isUnder_41.2.1
theorem dX1_isUnder_43 : decode cX1_isUnder 43 = .ok (.istore_n 3, 1) := op_62 nb_dX1_isUnder_41.2.2.1
set_option maxRecDepth 100000 in
theorem dX1_isUnder_44 : decode cX1_isUnder 44 = .ok (.iinc 4 1, 3) := (op_132 nb_dX1_isUnder_41.2.2.2.1).trans rfl
set_option maxRecDepth 100000 in
theorem dX1_isUnder_47 : decode cX1_isUnder 47 = .ok (.goto (-27), 3) := (op_167 nb_dX1_isUnder_41.2.2.2.2.1).trans rfl
theorem dX1_isUnder_50 : decode cX1_isUnder 50 = .ok (.iconst 0, 1) := op_3 nb_dX1_isUnder_41.2.2.2.2.2.1
theorem dX1_isUnder_51 : decode cX1_isUnder 51 = .ok (.ireturn, 1) := op_172 nb_dX1_isUnder_41.2.2.2.2.2.2.1
def fX1_isUnder_20 (N : Nat)  : Nat → Int32 → Int32 → Int32 → Int32 → List Int32 → Option (Bool)
  | 0 => fun _ _ _ _ _ => none
  | n + 1 => fun x2 x3 x4 v_size v_kinds =>
    if (8 : Int32) ≤ x4 then
    (some (false))
    else (if x3 < 0 then
    (some (false))
    else (if x3 = x2 then
    (some (true))
    else (mm_ck (mm_inb x3 mm_ABOVE.length) (mm_nm ((mm_ig mm_ABOVE x3)) (fun (y_10 : Int32) =>
    mm_nm (x4 + (1 : Int32)) (fun (y_11 : Int32) =>
    fX1_isUnder_20 N n x2 y_10 y_11 v_size v_kinds))))))

set_option maxHeartbeats 4000000 in
set_option maxRecDepth 100000 in
theorem tX1_isUnder_20 {p : Program} {l : Launch} {e : Env} {s : State} {m : MethodId} {args : Array Value} {below : List Frame} {meth : Method} {c : Code} {D : va_G} {cI cL cS cH : ClassId} {A : Nat → Prop} {d : Nat} {a : Nat → Nat} (hd : 2 ≤ d) (C0 : mm_Cx p s m args meth c RX1 cX1_isUnder 5 (some .boolean) D (mm_T cI cL cS cH) A) (hA : ∀ q, s.heap.size ≤ q → A q) {v_ran : Int32} {v_number : Int32} {v_trace : List Int32} {r : Bool} (N : Nat)  : ∀ (n : Nat), ∀ (x2 : Int32) (x3 : Int32) (x4 : Int32) (v_size : Int32) (v_kinds : List Int32) (H : Heap) (locs : List Loc) (ls : Array Slot), fX1_isUnder_20 N n x2 x3 x4 v_size v_kinds = some r → va_P D mm_cl (wd_X1 cI cL cS cH a v_size v_ran v_number v_kinds v_trace) H → va_D A (wd_X1 cI cL cS cH a v_size v_ran v_number v_kinds v_trace) → va_S A s.heap H locs → lv_has ls 5 [(2, .int x2), (3, .int x3), (4, .int x4)] → W p l e (mm_rr d) s m args below meth c H locs 0 0 (mm_Z below D A (wd_X1 cI cL cS cH a v_size v_ran v_number v_kinds v_trace) (some (.int (mm_b r))) args s) (F0 m 20 ls []) := by
  obtain ⟨hx, hb, hml, hown, hts, hr, hlocks, hK, hSt⟩ := id C0
  obtain ⟨⟨t_START, hZ_START, hT_START⟩, ⟨t_ABOVE, hZ_ABOVE, hT_ABOVE⟩, ⟨t_OWN, hZ_OWN, hT_OWN⟩, hNest⟩ := hSt
  intro n
  induction n with
  | zero =>
    intro x2 x3 x4 v_size v_kinds H locs ls hf
    cases (show none = some _ from hf)
  | succ n ih =>
    intro x2 x3 x4 v_size v_kinds H locs ls hf hP hD hS hl
    unfold fX1_isUnder_20 at hf
    refine lv_iload hx hb dX1_isUnder_20 (lv_at hl 2 rfl) ?_
    refine lv_bipush (v := 8) hx hb dX1_isUnder_22 (by decide) ?_
    refine lv_icmp_ge (tgt := 50) hx hb dX1_isUnder_24 (by decide) (fun c_6 => ?_) (fun c_6 => ?_)
    · have hf := mm_ip hf c_6
      refine lv_iconst (v := 0) hx hb dX1_isUnder_50 (by decide) ?_
      obtain rfl := mm_inj1 hf
      exact mm_zret (v := false) C0 hP hD hS dX1_isUnder_51 (by decide)
    · have hf := mm_in hf c_6
      refine lv_iload_n hx hb dX1_isUnder_27 rfl (lv_at hl 1 rfl) ?_
      refine lv_if_lt (tgt := 50) hx hb dX1_isUnder_28 (by decide) (fun c_7 => ?_) (fun c_7 => ?_)
      · have hf := mm_ip hf c_7
        refine lv_iconst (v := 0) hx hb dX1_isUnder_50 (by decide) ?_
        obtain rfl := mm_inj1 hf
        exact mm_zret (v := false) C0 hP hD hS dX1_isUnder_51 (by decide)
      · have hf := mm_in hf c_7
        refine lv_iload_n hx hb dX1_isUnder_31 rfl (lv_at hl 1 rfl) ?_
        refine lv_iload_n hx hb dX1_isUnder_32 rfl (lv_at hl 0 rfl) ?_
        refine lv_icmp_ne (tgt := 38) hx hb dX1_isUnder_33 (by decide) (fun c_8 => ?_) (fun c_8 => ?_)
        · have hf := mm_in hf c_8
          refine va_gets hx hb hZ_ABOVE hS hown (hts _ fl_X1_26) (fun _ h9 => h9) dX1_isUnder_38 ?_
          refine lv_iload_n hx hb dX1_isUnder_41 rfl (lv_at hl 1 rfl) ?_
          obtain ⟨h_9, hf⟩ := mm_cks hf
          refine va_ti (v := .int (mm_ig mm_ABOVE x3)) hx hb hT_ABOVE hS (mm_inbs h_9).1 rfl dX1_isUnder_42 ?_
          refine lv_topi (fun y_10 ey_10 => ?_)
          have hf := mm_nms hf ey_10
          refine lv_istore_n (lv' := [(3, .int y_10), (2, .int x2), (4, .int x4)]) hx hb dX1_isUnder_43 rfl hl (by decide) rfl (fun ls hl => ?_)
          obtain ⟨y_11, ey_11⟩ : ∃ z : Int32, z = x4 + (1 : Int32) := ⟨_, rfl⟩
          have hf := mm_nms hf ey_11
          refine lv_iinc (v := y_11) (lv' := [(4, .int y_11), (3, .int y_10), (2, .int x2)]) hx hb dX1_isUnder_44 hl (k := 2) rfl (by rw [ey_11]; rfl) (by decide) rfl (fun ls hl => ?_)
          refine lv_goto (tgt := 20) hx hb dX1_isUnder_47 (by decide) ?_
          exact ih _ _ _ _ _ H locs ls hf hP hD hS (lv_sub hl [2, 1, 0] rfl)
        · have hf := mm_ip hf c_8
          refine lv_iconst (v := 1) hx hb dX1_isUnder_36 (by decide) ?_
          obtain rfl := mm_inj1 hf
          exact mm_zret (v := true) C0 hP hD hS dX1_isUnder_37 (by decide)

def fX1_isUnder (N : Nat) (x1 : Int32) (x2 : Int32) (v_size : Int32) (v_kinds : List Int32) : Option (Bool) :=
    mm_bd1 (fX1_has N x1 v_size) (fun (r_1 : Bool) =>
    if r_1 = false then
    (some (false))
    else (mm_ck (mm_inb x1 v_kinds.length) (mm_nm ((mm_ig v_kinds x1)) (fun (y_5 : Int32) =>
    fX1_isUnder_20 N N x2 y_5 (0 : Int32) v_size v_kinds))))

set_option maxHeartbeats 4000000 in
set_option maxRecDepth 100000 in
theorem ctX1_isUnder {l : Launch} {D : va_G} {cI cL cS cH : ClassId} {a : Nat → Nat} {x1 : Int32} {x2 : Int32} {v_size : Int32} {v_ran : Int32} {v_number : Int32} {v_kinds : List Int32} {v_trace : List Int32} {r : Bool} {N d : Nat} (hd : 2 ≤ d) (hf : fX1_isUnder N x1 x2 v_size v_kinds = some r) : mm_Ct l yX1_isUnder cX1_isUnder 5 (some .boolean) d D (mm_T cI cL cS cH) [.ref (a 0), .int x1, .int x2] (wd_X1 cI cL cS cH a v_size v_ran v_number v_kinds v_trace) (wd_X1 cI cL cS cH a v_size v_ran v_number v_kinds v_trace) (some (.int (mm_b r))) := by
  refine mm_of (by decide) (Nat.le_of_ble_eq_true rfl) ?_
  intro p e s m args below meth c A H locs ls C0 hP hD hA hS hl
  have C0 : mm_Cx p s m args meth c RX1 cX1_isUnder 5 (some .boolean) D (mm_T cI cL cS cH) A := C0
  obtain ⟨hx, hb, hml, hown, hts, hr, hlocks, hK, hSt⟩ := id C0
  obtain ⟨⟨t_START, hZ_START, hT_START⟩, ⟨t_ABOVE, hZ_ABOVE, hT_ABOVE⟩, ⟨t_OWN, hZ_OWN, hT_OWN⟩, hNest⟩ := hSt
  have hl : lv_has ls 5 [(0, .ref (a 0)), (1, .int x1), (2, .int x2)] := hl
  unfold fX1_isUnder at hf
  refine lv_aload_n hx hb dX1_isUnder_0 rfl (lv_at hl 0 rfl) ?_
  refine lv_iload_n hx hb dX1_isUnder_1 rfl (lv_at hl 1 rfl) ?_
  obtain ⟨r_1, hc_2, hf⟩ := mm_bd1s hf
  refine mm_callVF (q0 := 0) (ci := 1) (rest := []) C0 lk_X1_22 (ctX1_has (a := a) (d := d - 1) (by omega) hc_2) (by omega) rfl hl.1 rfl (mm_cat rfl) dX1_isUnder_2 hP hD hA hS rfl rfl (fun H locs hP hD hS => ?_)
  refine W.eq (g2 := F0 m 5 ls [.int (mm_b r_1)]) rfl ?_
  refine lv_if_ne (tgt := 10) hx hb dX1_isUnder_5 (by decide) (fun c_3 => ?_) (fun c_3 => ?_)
  · have hf := mm_in hf (mm_b1 c_3)
    refine lv_aload_n hx hb dX1_isUnder_10 rfl (lv_at hl 0 rfl) ?_
    refine mm_get C0 hP iw_X1 0 rfl rfl 2 (by decide) fl_X1_9 rfl dX1_isUnder_11 ?_
    refine lv_iload_n hx hb dX1_isUnder_14 rfl (lv_at hl 1 rfl) ?_
    obtain ⟨h_4, hf⟩ := mm_cks hf
    refine mm_iald C0 hP 1 rfl h_4 dX1_isUnder_15 ?_
    refine lv_topi (fun y_5 ey_5 => ?_)
    have hf := mm_nms hf ey_5
    refine lv_istore_n (lv' := [(3, .int y_5), (0, .ref (a 0)), (1, .int x1), (2, .int x2)]) hx hb dX1_isUnder_16 rfl hl (by decide) rfl (fun ls hl => ?_)
    refine lv_iconst (v := 0) hx hb dX1_isUnder_17 (by decide) ?_
    refine lv_istore (lv' := [(4, .int (0 : Int32)), (3, .int y_5), (0, .ref (a 0)), (1, .int x1), (2, .int x2)]) hx hb dX1_isUnder_18 hl (by decide) rfl (fun ls hl => ?_)
    exact tX1_isUnder_20 hd C0 hA N  N _ _ _ _ _ H locs ls hf hP hD hS (lv_sub hl [4, 1, 0] rfl)
  · have hf := mm_ip hf (mm_b0 c_3)
    refine lv_iconst (v := 0) hx hb dX1_isUnder_8 (by decide) ?_
    obtain rfl := mm_inj1 hf
    exact mm_zret (v := false) C0 hP hD hS dX1_isUnder_9 (by decide)

theorem nb_dX1_traced_0 : bls_w cX1_traced [(0, [27]), (1, [155, 0, 26]), (4, [27]), (5, [16, 24]), (7, [162, 0, 20]), (10, [27]), (11, [42]), (12, [180, 0, 29]), (15, [162, 0, 12]), (18, [42]), (19, [180, 0, 15]), (22, [27])] := bls_of (by decide +kernel)
theorem dX1_traced_0 : decode cX1_traced 0 = .ok (.iload_n 1, 1) := op_27 nb_dX1_traced_0.1
set_option maxRecDepth 100000 in
theorem dX1_traced_1 : decode cX1_traced 1 = .ok (.ifCond .lt 26, 3) := (op_155 nb_dX1_traced_0.2.1).trans rfl
theorem dX1_traced_4 : decode cX1_traced 4 = .ok (.iload_n 1, 1) := op_27 nb_dX1_traced_0.2.2.1
set_option maxRecDepth 100000 in
theorem dX1_traced_5 : decode cX1_traced 5 = .ok (.bipush 24, 2) := (op_16 nb_dX1_traced_0.2.2.2.1).trans rfl
set_option maxRecDepth 100000 in
theorem dX1_traced_7 : decode cX1_traced 7 = .ok (.if_icmp .ge 20, 3) := (op_162 nb_dX1_traced_0.2.2.2.2.1).trans rfl
theorem dX1_traced_10 : decode cX1_traced 10 = .ok (.iload_n 1, 1) := op_27 nb_dX1_traced_0.2.2.2.2.2.1
theorem dX1_traced_11 : decode cX1_traced 11 = .ok (.aload_n 0, 1) := op_42 nb_dX1_traced_0.2.2.2.2.2.2.1
set_option maxRecDepth 100000 in
theorem dX1_traced_12 : decode cX1_traced 12 = .ok (.getfield 29, 3) := (op_180 nb_dX1_traced_0.2.2.2.2.2.2.2.1).trans rfl
set_option maxRecDepth 100000 in
theorem dX1_traced_15 : decode cX1_traced 15 = .ok (.if_icmp .ge 12, 3) := (op_162 nb_dX1_traced_0.2.2.2.2.2.2.2.2.1).trans rfl
theorem dX1_traced_18 : decode cX1_traced 18 = .ok (.aload_n 0, 1) := op_42 nb_dX1_traced_0.2.2.2.2.2.2.2.2.2.1
set_option maxRecDepth 100000 in
theorem dX1_traced_19 : decode cX1_traced 19 = .ok (.getfield 15, 3) := (op_180 nb_dX1_traced_0.2.2.2.2.2.2.2.2.2.2.1).trans rfl
theorem dX1_traced_22 : decode cX1_traced 22 = .ok (.iload_n 1, 1) := op_27 nb_dX1_traced_0.2.2.2.2.2.2.2.2.2.2.2.1
theorem nb_dX1_traced_23 : bls_w cX1_traced [(23, [46]), (24, [167, 0, 4]), (27, [2]), (28, [172])] := bls_of (by decide +kernel)
theorem dX1_traced_23 : decode cX1_traced 23 = .ok (.iaload, 1) := op_46 nb_dX1_traced_23.1
set_option maxRecDepth 100000 in
theorem dX1_traced_24 : decode cX1_traced 24 = .ok (.goto 4, 3) := (op_167 nb_dX1_traced_23.2.1).trans rfl
theorem dX1_traced_27 : decode cX1_traced 27 = .ok (.iconst (-1), 1) := op_2 nb_dX1_traced_23.2.2.1
theorem dX1_traced_28 : decode cX1_traced 28 = .ok (.ireturn, 1) := op_172 nb_dX1_traced_23.2.2.2.1
def fX1_traced (N : Nat) (x1 : Int32) (v_ran : Int32) (v_trace : List Int32) : Option (Int32) :=
    if x1 < 0 then
    (some ((-1 : Int32)))
    else (if (24 : Int32) ≤ x1 then
    (some ((-1 : Int32)))
    else (if v_ran ≤ x1 then
    (some ((-1 : Int32)))
    else (mm_ck (mm_inb x1 v_trace.length) (some ((mm_ig v_trace x1))))))

set_option maxHeartbeats 4000000 in
set_option maxRecDepth 100000 in
theorem ctX1_traced {l : Launch} {D : va_G} {cI cL cS cH : ClassId} {a : Nat → Nat} {x1 : Int32} {v_size : Int32} {v_ran : Int32} {v_number : Int32} {v_kinds : List Int32} {v_trace : List Int32} {r : Int32} {N d : Nat} (hd : 1 ≤ d) (hf : fX1_traced N x1 v_ran v_trace = some r) : mm_Ct l yX1_traced cX1_traced 2 (some .int) d D (mm_T cI cL cS cH) [.ref (a 0), .int x1] (wd_X1 cI cL cS cH a v_size v_ran v_number v_kinds v_trace) (wd_X1 cI cL cS cH a v_size v_ran v_number v_kinds v_trace) (some (.int r)) := by
  refine mm_of (by decide) (Nat.le_of_ble_eq_true rfl) ?_
  intro p e s m args below meth c A H locs ls C0 hP hD hA hS hl
  have C0 : mm_Cx p s m args meth c RX1 cX1_traced 2 (some .int) D (mm_T cI cL cS cH) A := C0
  obtain ⟨hx, hb, hml, hown, hts, hr, hlocks, hK, hSt⟩ := id C0
  have hl : lv_has ls 2 [(0, .ref (a 0)), (1, .int x1)] := hl
  unfold fX1_traced at hf
  refine lv_iload_n hx hb dX1_traced_0 rfl (lv_at hl 1 rfl) ?_
  refine lv_if_lt (tgt := 27) hx hb dX1_traced_1 (by decide) (fun c_1 => ?_) (fun c_1 => ?_)
  · have hf := mm_ip hf c_1
    refine lv_iconst (v := -1) hx hb dX1_traced_27 (by decide) ?_
    obtain rfl := mm_inj1 hf
    exact mm_iret C0 hP hD hS dX1_traced_28
  · have hf := mm_in hf c_1
    refine lv_iload_n hx hb dX1_traced_4 rfl (lv_at hl 1 rfl) ?_
    refine lv_bipush (v := 24) hx hb dX1_traced_5 (by decide) ?_
    refine lv_icmp_ge (tgt := 27) hx hb dX1_traced_7 (by decide) (fun c_2 => ?_) (fun c_2 => ?_)
    · have hf := mm_ip hf c_2
      refine lv_iconst (v := -1) hx hb dX1_traced_27 (by decide) ?_
      obtain rfl := mm_inj1 hf
      exact mm_iret C0 hP hD hS dX1_traced_28
    · have hf := mm_in hf c_2
      refine lv_iload_n hx hb dX1_traced_10 rfl (lv_at hl 1 rfl) ?_
      refine lv_aload_n hx hb dX1_traced_11 rfl (lv_at hl 0 rfl) ?_
      refine mm_get C0 hP iw_X1 0 rfl rfl 1 (by decide) fl_X1_29 rfl dX1_traced_12 ?_
      refine lv_icmp_ge (tgt := 27) hx hb dX1_traced_15 (by decide) (fun c_3 => ?_) (fun c_3 => ?_)
      · have hf := mm_ip hf c_3
        refine lv_iconst (v := -1) hx hb dX1_traced_27 (by decide) ?_
        obtain rfl := mm_inj1 hf
        exact mm_iret C0 hP hD hS dX1_traced_28
      · have hf := mm_in hf c_3
        refine lv_aload_n hx hb dX1_traced_18 rfl (lv_at hl 0 rfl) ?_
        refine mm_get C0 hP iw_X1 0 rfl rfl 3 (by decide) fl_X1_15 rfl dX1_traced_19 ?_
        refine lv_iload_n hx hb dX1_traced_22 rfl (lv_at hl 1 rfl) ?_
        obtain ⟨h_4, hf⟩ := mm_cks hf
        refine mm_iald C0 hP 2 rfl h_4 dX1_traced_23 ?_
        refine lv_goto (tgt := 28) hx hb dX1_traced_24 (by decide) ?_
        obtain rfl := mm_inj1 hf
        exact mm_iret C0 hP hD hS dX1_traced_28

theorem nb_dX1_note_0 : bls_w cX1_note [(0, [42]), (1, [180, 0, 29]), (4, [16, 24]), (6, [162, 0, 13]), (9, [42]), (10, [180, 0, 15]), (13, [42]), (14, [180, 0, 29]), (17, [27]), (18, [79]), (19, [42]), (20, [89])] := bls_of (by decide +kernel)
theorem dX1_note_0 : decode cX1_note 0 = .ok (.aload_n 0, 1) := op_42 nb_dX1_note_0.1
set_option maxRecDepth 100000 in
theorem dX1_note_1 : decode cX1_note 1 = .ok (.getfield 29, 3) := (op_180 nb_dX1_note_0.2.1).trans rfl
set_option maxRecDepth 100000 in
theorem dX1_note_4 : decode cX1_note 4 = .ok (.bipush 24, 2) := (op_16 nb_dX1_note_0.2.2.1).trans rfl
set_option maxRecDepth 100000 in
theorem dX1_note_6 : decode cX1_note 6 = .ok (.if_icmp .ge 13, 3) := (op_162 nb_dX1_note_0.2.2.2.1).trans rfl
theorem dX1_note_9 : decode cX1_note 9 = .ok (.aload_n 0, 1) := op_42 nb_dX1_note_0.2.2.2.2.1
set_option maxRecDepth 100000 in
theorem dX1_note_10 : decode cX1_note 10 = .ok (.getfield 15, 3) := (op_180 nb_dX1_note_0.2.2.2.2.2.1).trans rfl
theorem dX1_note_13 : decode cX1_note 13 = .ok (.aload_n 0, 1) := op_42 nb_dX1_note_0.2.2.2.2.2.2.1
set_option maxRecDepth 100000 in
theorem dX1_note_14 : decode cX1_note 14 = .ok (.getfield 29, 3) := (op_180 nb_dX1_note_0.2.2.2.2.2.2.2.1).trans rfl
theorem dX1_note_17 : decode cX1_note 17 = .ok (.iload_n 1, 1) := op_27 nb_dX1_note_0.2.2.2.2.2.2.2.2.1
theorem dX1_note_18 : decode cX1_note 18 = .ok (.iastore, 1) := op_79 nb_dX1_note_0.2.2.2.2.2.2.2.2.2.1
theorem dX1_note_19 : decode cX1_note 19 = .ok (.aload_n 0, 1) := op_42 nb_dX1_note_0.2.2.2.2.2.2.2.2.2.2.1
theorem dX1_note_20 : decode cX1_note 20 = .ok (.dup, 1) := op_89 nb_dX1_note_0.2.2.2.2.2.2.2.2.2.2.2.1
theorem nb_dX1_note_21 : bls_w cX1_note [(21, [180, 0, 29]), (24, [4]), (25, [96]), (26, [181, 0, 29]), (29, [177])] := bls_of (by decide +kernel)
set_option maxRecDepth 100000 in
theorem dX1_note_21 : decode cX1_note 21 = .ok (.getfield 29, 3) := (op_180 nb_dX1_note_21.1).trans rfl
theorem dX1_note_24 : decode cX1_note 24 = .ok (.iconst 1, 1) := op_4 nb_dX1_note_21.2.1
theorem dX1_note_25 : decode cX1_note 25 = .ok (.iadd, 1) := op_96 nb_dX1_note_21.2.2.1
set_option maxRecDepth 100000 in
theorem dX1_note_26 : decode cX1_note 26 = .ok (.putfield 29, 3) := (op_181 nb_dX1_note_21.2.2.2.1).trans rfl
theorem dX1_note_29 : decode cX1_note 29 = .ok (.return_, 1) := op_177 nb_dX1_note_21.2.2.2.2.1
def fX1_note_19 (N : Nat)  (v_ran : Int32) (v_trace : List Int32) : Option (Int32 × List Int32) :=
    mm_nm ((v_ran + (1 : Int32))) (fun (y_4 : Int32) =>
    some (y_4, v_trace))

set_option maxHeartbeats 4000000 in
set_option maxRecDepth 100000 in
theorem tX1_note_19 {p : Program} {l : Launch} {e : Env} {s : State} {m : MethodId} {args : Array Value} {below : List Frame} {meth : Method} {c : Code} {D : va_G} {cI cL cS cH : ClassId} {A : Nat → Prop} {d : Nat} {a : Nat → Nat} (hd : 1 ≤ d) (C0 : mm_Cx p s m args meth c RX1 cX1_note 2 none D (mm_T cI cL cS cH) A) (hA : ∀ q, s.heap.size ≤ q → A q) {v_size : Int32} {v_number : Int32} {v_kinds : List Int32} {w_ran : Int32} {w_trace : List Int32} (N : Nat)  : ∀ (v_ran : Int32) (v_trace : List Int32) (H : Heap) (locs : List Loc) (ls : Array Slot), fX1_note_19 N v_ran v_trace = some (w_ran, w_trace) → va_P D mm_cl (wd_X1 cI cL cS cH a v_size v_ran v_number v_kinds v_trace) H → va_D A (wd_X1 cI cL cS cH a v_size v_ran v_number v_kinds v_trace) → va_S A s.heap H locs → lv_has ls 2 [(0, .ref (a 0))] → W p l e (mm_rr d) s m args below meth c H locs 0 0 (mm_Z below D A (wd_X1 cI cL cS cH a v_size w_ran v_number v_kinds w_trace) none args s) (F0 m 19 ls []) := by
  obtain ⟨hx, hb, hml, hown, hts, hr, hlocks, hK, hSt⟩ := id C0
  intro v_ran v_trace H locs ls hf hP hD hS hl
  unfold fX1_note_19 at hf
  refine lv_aload_n hx hb dX1_note_19 rfl (lv_at hl 0 rfl) ?_
  refine lv_dup hx hb dX1_note_20 rfl ?_
  refine mm_get C0 hP iw_X1 0 rfl rfl 1 (by decide) fl_X1_29 rfl dX1_note_21 ?_
  refine lv_iconst (v := 1) hx hb dX1_note_24 (by decide) ?_
  refine lv_iadd hx hb dX1_note_25 ?_
  refine lv_topi (fun y_4 ey_4 => ?_)
  have hf := mm_nms hf ey_4
  refine mm_put C0 hP hD hS iw_X1 tyX1 tyX1_ok nmX1 0 rfl rfl 1 (by decide) fl_X1_29 rfl rfl rfl (Nat.le_of_ble_eq_true rfl) dX1_note_26 (w2 := (wd_X1 cI cL cS cH a v_size y_4 v_number v_kinds v_trace)) rfl (fun H locs hP hD hS => ?_)
  apply mm_sub2 hf
  exact mm_vret C0 hP hD hS dX1_note_29

def fX1_note (N : Nat) (x1 : Int32) (v_ran : Int32) (v_trace : List Int32) : Option (Int32 × List Int32) :=
    if (24 : Int32) ≤ v_ran then
    (fX1_note_19 N v_ran v_trace)
    else (mm_ck (mm_inb v_ran v_trace.length) (mm_nm (mm_is v_trace v_ran x1) (fun (l_3 : List Int32) =>
    fX1_note_19 N v_ran l_3)))

set_option maxHeartbeats 4000000 in
set_option maxRecDepth 100000 in
theorem ctX1_note {l : Launch} {D : va_G} {cI cL cS cH : ClassId} {a : Nat → Nat} {x1 : Int32} {v_size : Int32} {v_ran : Int32} {v_number : Int32} {v_kinds : List Int32} {v_trace : List Int32} {w_ran : Int32} {w_trace : List Int32} {N d : Nat} (hd : 1 ≤ d) (hf : fX1_note N x1 v_ran v_trace = some (w_ran, w_trace)) : mm_Ct l yX1_note cX1_note 2 none d D (mm_T cI cL cS cH) [.ref (a 0), .int x1] (wd_X1 cI cL cS cH a v_size v_ran v_number v_kinds v_trace) (wd_X1 cI cL cS cH a v_size w_ran v_number v_kinds w_trace) none := by
  refine mm_of (by decide) (Nat.le_of_ble_eq_true rfl) ?_
  intro p e s m args below meth c A H locs ls C0 hP hD hA hS hl
  have C0 : mm_Cx p s m args meth c RX1 cX1_note 2 none D (mm_T cI cL cS cH) A := C0
  obtain ⟨hx, hb, hml, hown, hts, hr, hlocks, hK, hSt⟩ := id C0
  have hl : lv_has ls 2 [(0, .ref (a 0)), (1, .int x1)] := hl
  unfold fX1_note at hf
  refine lv_aload_n hx hb dX1_note_0 rfl (lv_at hl 0 rfl) ?_
  refine mm_get C0 hP iw_X1 0 rfl rfl 1 (by decide) fl_X1_29 rfl dX1_note_1 ?_
  refine lv_bipush (v := 24) hx hb dX1_note_4 (by decide) ?_
  refine lv_icmp_ge (tgt := 19) hx hb dX1_note_6 (by decide) (fun c_1 => ?_) (fun c_1 => ?_)
  · have hf := mm_ip hf c_1
    exact tX1_note_19 hd C0 hA N  _ _ H locs ls hf hP hD hS (lv_sub hl [0] rfl)
  · have hf := mm_in hf c_1
    refine lv_aload_n hx hb dX1_note_9 rfl (lv_at hl 0 rfl) ?_
    refine mm_get C0 hP iw_X1 0 rfl rfl 3 (by decide) fl_X1_15 rfl dX1_note_10 ?_
    refine lv_aload_n hx hb dX1_note_13 rfl (lv_at hl 0 rfl) ?_
    refine mm_get C0 hP iw_X1 0 rfl rfl 1 (by decide) fl_X1_29 rfl dX1_note_14 ?_
    refine lv_iload_n hx hb dX1_note_17 rfl (lv_at hl 1 rfl) ?_
    obtain ⟨h_2, hf⟩ := mm_cks hf
    refine mm_iast C0 hP hD hS 2 rfl h_2 dX1_note_18 (w2 := (wd_X1 cI cL cS cH a v_size v_ran v_number v_kinds (mm_is v_trace v_ran x1))) rfl (fun H locs hP hD hS => ?_)
    generalize el_3 : (mm_is v_trace v_ran x1) = l_3 at hP hD
    have hf := mm_nms hf el_3.symm
    exact tX1_note_19 hd C0 hA N  _ _ H locs ls hf hP hD hS (lv_sub hl [0] rfl)

theorem nb_dX1_call_0 : bls_w cX1_call [(0, [28]), (1, [54, 6]), (3, [3]), (4, [54, 7]), (6, [21, 7]), (8, [16, 8]), (10, [162, 0, 74]), (13, [21, 6]), (15, [155, 0, 69]), (18, [178, 0, 39]), (21, [7]), (22, [21, 6])] := bls_of (by decide +kernel)
theorem dX1_call_0 : decode cX1_call 0 = .ok (.iload_n 2, 1) := op_28 nb_dX1_call_0.1
set_option maxRecDepth 100000 in
theorem dX1_call_1 : decode cX1_call 1 = .ok (.istore 6, 2) := (op_54 nb_dX1_call_0.2.1).trans rfl
theorem dX1_call_3 : decode cX1_call 3 = .ok (.iconst 0, 1) := op_3 nb_dX1_call_0.2.2.1
set_option maxRecDepth 100000 in
theorem dX1_call_4 : decode cX1_call 4 = .ok (.istore 7, 2) := (op_54 nb_dX1_call_0.2.2.2.1).trans rfl
set_option maxRecDepth 100000 in
theorem dX1_call_6 : decode cX1_call 6 = .ok (.iload 7, 2) := (op_21 nb_dX1_call_0.2.2.2.2.1).trans rfl
set_option maxRecDepth 100000 in
theorem dX1_call_8 : decode cX1_call 8 = .ok (.bipush 8, 2) := (op_16 nb_dX1_call_0.2.2.2.2.2.1).trans rfl
set_option maxRecDepth 100000 in
theorem dX1_call_10 : decode cX1_call 10 = .ok (.if_icmp .ge 74, 3) := (op_162 nb_dX1_call_0.2.2.2.2.2.2.1).trans rfl
set_option maxRecDepth 100000 in
theorem dX1_call_13 : decode cX1_call 13 = .ok (.iload 6, 2) := (op_21 nb_dX1_call_0.2.2.2.2.2.2.2.1).trans rfl
set_option maxRecDepth 100000 in
theorem dX1_call_15 : decode cX1_call 15 = .ok (.ifCond .lt 69, 3) := (op_155 nb_dX1_call_0.2.2.2.2.2.2.2.2.1).trans rfl
set_option maxRecDepth 100000 in
theorem dX1_call_18 : decode cX1_call 18 = .ok (.getstatic 39, 3) := (op_178 nb_dX1_call_0.2.2.2.2.2.2.2.2.2.1).trans rfl
theorem dX1_call_21 : decode cX1_call 21 = .ok (.iconst 4, 1) := op_7 nb_dX1_call_0.2.2.2.2.2.2.2.2.2.2.1
set_option maxRecDepth 100000 in
theorem dX1_call_22 : decode cX1_call 22 = .ok (.iload 6, 2) := (op_21 nb_dX1_call_0.2.2.2.2.2.2.2.2.2.2.2.1).trans rfl
theorem nb_dX1_call_24 : bls_w cX1_call [(24, [104]), (25, [29]), (26, [96]), (27, [46]), (28, [153, 0, 42]), (31, [21, 5]), (33, [16, 40]), (35, [162, 0, 33]), (38, [42]), (39, [178, 0, 39]), (42, [7]), (43, [21, 6])] := bls_of (by decide +kernel)
theorem dX1_call_24 : decode cX1_call 24 = .ok (.imul, 1) := op_104 nb_dX1_call_24.1
theorem dX1_call_25 : decode cX1_call 25 = .ok (.iload_n 3, 1) := op_29 nb_dX1_call_24.2.1
theorem dX1_call_26 : decode cX1_call 26 = .ok (.iadd, 1) := op_96 nb_dX1_call_24.2.2.1
theorem dX1_call_27 : decode cX1_call 27 = .ok (.iaload, 1) := op_46 nb_dX1_call_24.2.2.2.1
set_option maxRecDepth 100000 in
theorem dX1_call_28 : decode cX1_call 28 = .ok (.ifCond .eq 42, 3) := (op_153 nb_dX1_call_24.2.2.2.2.1).trans rfl
set_option maxRecDepth 100000 in
theorem dX1_call_31 : decode cX1_call 31 = .ok (.iload 5, 2) := (op_21 nb_dX1_call_24.2.2.2.2.2.1).trans rfl
set_option maxRecDepth 100000 in
theorem dX1_call_33 : decode cX1_call 33 = .ok (.bipush 40, 2) := (op_16 nb_dX1_call_24.2.2.2.2.2.2.1).trans rfl
set_option maxRecDepth 100000 in
theorem dX1_call_35 : decode cX1_call 35 = .ok (.if_icmp .ge 33, 3) := (op_162 nb_dX1_call_24.2.2.2.2.2.2.2.1).trans rfl
theorem dX1_call_38 : decode cX1_call 38 = .ok (.aload_n 0, 1) := op_42 nb_dX1_call_24.2.2.2.2.2.2.2.2.1
set_option maxRecDepth 100000 in
theorem dX1_call_39 : decode cX1_call 39 = .ok (.getstatic 39, 3) := (op_178 nb_dX1_call_24.2.2.2.2.2.2.2.2.2.1).trans rfl
theorem dX1_call_42 : decode cX1_call 42 = .ok (.iconst 4, 1) := op_7 nb_dX1_call_24.2.2.2.2.2.2.2.2.2.2.1
set_option maxRecDepth 100000 in
theorem dX1_call_43 : decode cX1_call 43 = .ok (.iload 6, 2) := (op_21 nb_dX1_call_24.2.2.2.2.2.2.2.2.2.2.2.1).trans rfl
theorem nb_dX1_call_45 : bls_w cX1_call [(45, [104]), (46, [29]), (47, [96]), (48, [46]), (49, [27]), (50, [178, 0, 26]), (53, [21, 6]), (55, [46]), (56, [21, 4]), (58, [21, 5]), (60, [4]), (61, [96])] := bls_of (by decide +kernel)
theorem dX1_call_45 : decode cX1_call 45 = .ok (.imul, 1) := op_104 nb_dX1_call_45.1
theorem dX1_call_46 : decode cX1_call 46 = .ok (.iload_n 3, 1) := op_29 nb_dX1_call_45.2.1
theorem dX1_call_47 : decode cX1_call 47 = .ok (.iadd, 1) := op_96 nb_dX1_call_45.2.2.1
theorem dX1_call_48 : decode cX1_call 48 = .ok (.iaload, 1) := op_46 nb_dX1_call_45.2.2.2.1
theorem dX1_call_49 : decode cX1_call 49 = .ok (.iload_n 1, 1) := op_27 nb_dX1_call_45.2.2.2.2.1
set_option maxRecDepth 100000 in
theorem dX1_call_50 : decode cX1_call 50 = .ok (.getstatic 26, 3) := (op_178 nb_dX1_call_45.2.2.2.2.2.1).trans rfl
set_option maxRecDepth 100000 in
theorem dX1_call_53 : decode cX1_call 53 = .ok (.iload 6, 2) := (op_21 nb_dX1_call_45.2.2.2.2.2.2.1).trans rfl
theorem dX1_call_55 : decode cX1_call 55 = .ok (.iaload, 1) := op_46 nb_dX1_call_45.2.2.2.2.2.2.2.1
set_option maxRecDepth 100000 in
theorem dX1_call_56 : decode cX1_call 56 = .ok (.iload 4, 2) := (op_21 nb_dX1_call_45.2.2.2.2.2.2.2.2.1).trans rfl
set_option maxRecDepth 100000 in
theorem dX1_call_58 : decode cX1_call 58 = .ok (.iload 5, 2) := (op_21 nb_dX1_call_45.2.2.2.2.2.2.2.2.2.1).trans rfl
theorem dX1_call_60 : decode cX1_call 60 = .ok (.iconst 1, 1) := op_4 nb_dX1_call_45.2.2.2.2.2.2.2.2.2.2.1
theorem dX1_call_61 : decode cX1_call 61 = .ok (.iadd, 1) := op_96 nb_dX1_call_45.2.2.2.2.2.2.2.2.2.2.2.1
theorem nb_dX1_call_62 : bls_w cX1_call [(62, [182, 0, 42]), (65, [167, 0, 4]), (68, [3]), (69, [172]), (70, [178, 0, 26]), (73, [21, 6]), (75, [46]), (76, [54, 6]), (78, [132, 7, 1]), (81, [167, 255, 181]), (84, [3]), (85, [172])] := bls_of (by decide +kernel)
set_option maxRecDepth 100000 in
theorem dX1_call_62 : decode cX1_call 62 = .ok (.invokevirtual 42, 3) := (op_182 nb_dX1_call_62.1).trans rfl
set_option maxRecDepth 100000 in
theorem dX1_call_65 : decode cX1_call 65 = .ok (.goto 4, 3) := (op_167 nb_dX1_call_62.2.1).trans rfl
theorem dX1_call_68 : decode cX1_call 68 = .ok (.iconst 0, 1) := op_3 nb_dX1_call_62.2.2.1
theorem dX1_call_69 : decode cX1_call 69 = .ok (.ireturn, 1) := op_172 nb_dX1_call_62.2.2.2.1
set_option maxRecDepth 100000 in
theorem dX1_call_70 : decode cX1_call 70 = .ok (.getstatic 26, 3) := (op_178 nb_dX1_call_62.2.2.2.2.1).trans rfl
set_option maxRecDepth 100000 in
theorem dX1_call_73 : decode cX1_call 73 = .ok (.iload 6, 2) := (op_21 nb_dX1_call_62.2.2.2.2.2.1).trans rfl
theorem dX1_call_75 : decode cX1_call 75 = .ok (.iaload, 1) := op_46 nb_dX1_call_62.2.2.2.2.2.2.1
set_option maxRecDepth 100000 in
theorem dX1_call_76 : decode cX1_call 76 = .ok (.istore 6, 2) := (op_54 nb_dX1_call_62.2.2.2.2.2.2.2.1).trans rfl
set_option maxRecDepth 100000 in
theorem dX1_call_78 : decode cX1_call 78 = .ok (.iinc 7 1, 3) := (op_132 nb_dX1_call_62.2.2.2.2.2.2.2.2.1).trans rfl
set_option maxRecDepth 100000 in
theorem dX1_call_81 : decode cX1_call 81 = .ok (.goto (-75), 3) := (op_167 nb_dX1_call_62.2.2.2.2.2.2.2.2.2.1).trans rfl
theorem dX1_call_84 : decode cX1_call 84 = .ok (.iconst 0, 1) := op_3 nb_dX1_call_62.2.2.2.2.2.2.2.2.2.2.1
theorem dX1_call_85 : decode cX1_call 85 = .ok (.ireturn, 1) := op_172 nb_dX1_call_62.2.2.2.2.2.2.2.2.2.2.2.1
def fX1_call_6 (N : Nat) (go : Int32 → Int32 → Int32 → Int32 → Int32 → Int32 → Int32 → List Int32 → Option (Int32 × Int32 × List Int32))  : Nat → Int32 → Int32 → Int32 → Int32 → Int32 → Int32 → Int32 → Int32 → List Int32 → Option (Int32 × Int32 × List Int32)
  | 0 => fun _ _ _ _ _ _ _ _ _ => none
  | n + 1 => fun x1 x3 x4 x5 x6 x7 v_ran v_number v_trace =>
    if (8 : Int32) ≤ x7 then
    (some ((0 : Int32), v_ran, v_trace))
    else (if x6 < 0 then
    (some ((0 : Int32), v_ran, v_trace))
    else (mm_ck (mm_inb (((4 : Int32) * x6) + x3) mm_OWN.length) (if (mm_ig mm_OWN (((4 : Int32) * x6) + x3)) = 0 then
    (mm_ck (mm_inb x6 mm_ABOVE.length) (mm_nm ((mm_ig mm_ABOVE x6)) (fun (y_6 : Int32) =>
    mm_nm (x7 + (1 : Int32)) (fun (y_7 : Int32) =>
    fX1_call_6 N go n x1 x3 x4 x5 y_6 y_7 v_ran v_number v_trace))))
    else (if (40 : Int32) ≤ x5 then
    (some ((0 : Int32), v_ran, v_trace))
    else (mm_ck (mm_inb (((4 : Int32) * x6) + x3) mm_OWN.length) (mm_ck (mm_inb x6 mm_ABOVE.length) (mm_bd3 (go (mm_ig mm_OWN (((4 : Int32) * x6) + x3)) x1 (mm_ig mm_ABOVE x6) x4 (x5 + (1 : Int32)) v_ran v_number v_trace) (fun (r_11 : Int32) (w_12 : Int32) (w_13 : List Int32) =>
    some (r_11, w_12, w_13)))))))))

set_option maxHeartbeats 4000000 in
set_option maxRecDepth 100000 in
theorem tX1_call_6 {p : Program} {l : Launch} {e : Env} {s : State} {m : MethodId} {args : Array Value} {below : List Frame} {meth : Method} {c : Code} {D : va_G} {cI cL cS cH : ClassId} {A : Nat → Prop} {d : Nat} {a : Nat → Nat} {go : Int32 → Int32 → Int32 → Int32 → Int32 → Int32 → Int32 → List Int32 → Option (Int32 × Int32 × List Int32)} {dgo : Nat} (hgo : ∀ (a : Nat → Nat) (x1 : Int32) (x2 : Int32) (x3 : Int32) (x4 : Int32) (x5 : Int32) (v_size : Int32) (v_ran : Int32) (v_number : Int32) (v_kinds : List Int32) (v_trace : List Int32) (r : Int32) (w_ran : Int32) (w_trace : List Int32), go x1 x2 x3 x4 x5 v_ran v_number v_trace = some (r, w_ran, w_trace) → mm_Ct l yX1_run cX1_run 6 (some .int) dgo D (mm_T cI cL cS cH) [.ref (a 0), .int x1, .int x2, .int x3, .int x4, .int x5] (wd_X1 cI cL cS cH a v_size v_ran v_number v_kinds v_trace) (wd_X1 cI cL cS cH a v_size w_ran v_number v_kinds w_trace) (some (.int r))) (hE : 1 ≤ dgo) (hd : dgo + 1 ≤ d) (C0 : mm_Cx p s m args meth c RX1 cX1_call 8 (some .int) D (mm_T cI cL cS cH) A) (hA : ∀ q, s.heap.size ≤ q → A q) {v_size : Int32} {v_kinds : List Int32} {r : Int32} {w_ran : Int32} {w_trace : List Int32} (N : Nat)  : ∀ (n : Nat), ∀ (x1 : Int32) (x3 : Int32) (x4 : Int32) (x5 : Int32) (x6 : Int32) (x7 : Int32) (v_ran : Int32) (v_number : Int32) (v_trace : List Int32) (H : Heap) (locs : List Loc) (ls : Array Slot), fX1_call_6 N go n x1 x3 x4 x5 x6 x7 v_ran v_number v_trace = some (r, w_ran, w_trace) → va_P D mm_cl (wd_X1 cI cL cS cH a v_size v_ran v_number v_kinds v_trace) H → va_D A (wd_X1 cI cL cS cH a v_size v_ran v_number v_kinds v_trace) → va_S A s.heap H locs → lv_has ls 8 [(0, .ref (a 0)), (1, .int x1), (3, .int x3), (4, .int x4), (5, .int x5), (6, .int x6), (7, .int x7)] → W p l e (mm_rr d) s m args below meth c H locs 0 0 (mm_Z below D A (wd_X1 cI cL cS cH a v_size w_ran v_number v_kinds w_trace) (some (.int r)) args s) (F0 m 6 ls []) := by
  obtain ⟨hx, hb, hml, hown, hts, hr, hlocks, hK, hSt⟩ := id C0
  obtain ⟨⟨t_START, hZ_START, hT_START⟩, ⟨t_ABOVE, hZ_ABOVE, hT_ABOVE⟩, ⟨t_OWN, hZ_OWN, hT_OWN⟩, hNest⟩ := hSt
  intro n
  induction n with
  | zero =>
    intro x1 x3 x4 x5 x6 x7 v_ran v_number v_trace H locs ls hf
    cases (show none = some _ from hf)
  | succ n ih =>
    intro x1 x3 x4 x5 x6 x7 v_ran v_number v_trace H locs ls hf hP hD hS hl
    unfold fX1_call_6 at hf
    refine lv_iload hx hb dX1_call_6 (lv_at hl 6 rfl) ?_
    refine lv_bipush (v := 8) hx hb dX1_call_8 (by decide) ?_
    refine lv_icmp_ge (tgt := 84) hx hb dX1_call_10 (by decide) (fun c_1 => ?_) (fun c_1 => ?_)
    · have hf := mm_ip hf c_1
      refine lv_iconst (v := 0) hx hb dX1_call_84 (by decide) ?_
      apply mm_sub3 hf
      exact mm_iret C0 hP hD hS dX1_call_85
    · have hf := mm_in hf c_1
      refine lv_iload hx hb dX1_call_13 (lv_at hl 5 rfl) ?_
      refine lv_if_lt (tgt := 84) hx hb dX1_call_15 (by decide) (fun c_2 => ?_) (fun c_2 => ?_)
      · have hf := mm_ip hf c_2
        refine lv_iconst (v := 0) hx hb dX1_call_84 (by decide) ?_
        apply mm_sub3 hf
        exact mm_iret C0 hP hD hS dX1_call_85
      · have hf := mm_in hf c_2
        refine va_gets hx hb hZ_OWN hS hown (hts _ fl_X1_39) (fun _ h9 => h9) dX1_call_18 ?_
        refine lv_iconst (v := 4) hx hb dX1_call_21 (by decide) ?_
        refine lv_iload hx hb dX1_call_22 (lv_at hl 5 rfl) ?_
        refine lv_imul hx hb dX1_call_24 ?_
        refine lv_iload_n hx hb dX1_call_25 rfl (lv_at hl 2 rfl) ?_
        refine lv_iadd hx hb dX1_call_26 ?_
        obtain ⟨h_3, hf⟩ := mm_cks hf
        refine va_ti (v := .int (mm_ig mm_OWN (((4 : Int32) * x6) + x3))) hx hb hT_OWN hS (mm_inbs h_3).1 rfl dX1_call_27 ?_
        refine lv_if_eq (tgt := 70) hx hb dX1_call_28 (by decide) (fun c_4 => ?_) (fun c_4 => ?_)
        · have hf := mm_ip hf c_4
          refine va_gets hx hb hZ_ABOVE hS hown (hts _ fl_X1_26) (fun _ h9 => h9) dX1_call_70 ?_
          refine lv_iload hx hb dX1_call_73 (lv_at hl 5 rfl) ?_
          obtain ⟨h_5, hf⟩ := mm_cks hf
          refine va_ti (v := .int (mm_ig mm_ABOVE x6)) hx hb hT_ABOVE hS (mm_inbs h_5).1 rfl dX1_call_75 ?_
          refine lv_topi (fun y_6 ey_6 => ?_)
          have hf := mm_nms hf ey_6
          refine lv_istore (lv' := [(6, .int y_6), (0, .ref (a 0)), (1, .int x1), (3, .int x3), (4, .int x4), (5, .int x5), (7, .int x7)]) hx hb dX1_call_76 hl (by decide) rfl (fun ls hl => ?_)
          obtain ⟨y_7, ey_7⟩ : ∃ z : Int32, z = x7 + (1 : Int32) := ⟨_, rfl⟩
          have hf := mm_nms hf ey_7
          refine lv_iinc (v := y_7) (lv' := [(7, .int y_7), (6, .int y_6), (0, .ref (a 0)), (1, .int x1), (3, .int x3), (4, .int x4), (5, .int x5)]) hx hb dX1_call_78 hl (k := 6) rfl (by rw [ey_7]; rfl) (by decide) rfl (fun ls hl => ?_)
          refine lv_goto (tgt := 6) hx hb dX1_call_81 (by decide) ?_
          exact ih _ _ _ _ _ _ _ _ _ H locs ls hf hP hD hS (lv_sub hl [2, 3, 4, 5, 6, 1, 0] rfl)
        · have hf := mm_in hf c_4
          refine lv_iload hx hb dX1_call_31 (lv_at hl 4 rfl) ?_
          refine lv_bipush (v := 40) hx hb dX1_call_33 (by decide) ?_
          refine lv_icmp_ge (tgt := 68) hx hb dX1_call_35 (by decide) (fun c_8 => ?_) (fun c_8 => ?_)
          · have hf := mm_ip hf c_8
            refine lv_iconst (v := 0) hx hb dX1_call_68 (by decide) ?_
            apply mm_sub3 hf
            exact mm_iret C0 hP hD hS dX1_call_69
          · have hf := mm_in hf c_8
            refine lv_aload_n hx hb dX1_call_38 rfl (lv_at hl 0 rfl) ?_
            refine va_gets hx hb hZ_OWN hS hown (hts _ fl_X1_39) (fun _ h9 => h9) dX1_call_39 ?_
            refine lv_iconst (v := 4) hx hb dX1_call_42 (by decide) ?_
            refine lv_iload hx hb dX1_call_43 (lv_at hl 5 rfl) ?_
            refine lv_imul hx hb dX1_call_45 ?_
            refine lv_iload_n hx hb dX1_call_46 rfl (lv_at hl 2 rfl) ?_
            refine lv_iadd hx hb dX1_call_47 ?_
            obtain ⟨h_9, hf⟩ := mm_cks hf
            refine va_ti (v := .int (mm_ig mm_OWN (((4 : Int32) * x6) + x3))) hx hb hT_OWN hS (mm_inbs h_9).1 rfl dX1_call_48 ?_
            refine lv_iload_n hx hb dX1_call_49 rfl (lv_at hl 1 rfl) ?_
            refine va_gets hx hb hZ_ABOVE hS hown (hts _ fl_X1_26) (fun _ h9 => h9) dX1_call_50 ?_
            refine lv_iload hx hb dX1_call_53 (lv_at hl 5 rfl) ?_
            obtain ⟨h_10, hf⟩ := mm_cks hf
            refine va_ti (v := .int (mm_ig mm_ABOVE x6)) hx hb hT_ABOVE hS (mm_inbs h_10).1 rfl dX1_call_55 ?_
            refine lv_iload hx hb dX1_call_56 (lv_at hl 3 rfl) ?_
            refine lv_iload hx hb dX1_call_58 (lv_at hl 4 rfl) ?_
            refine lv_iconst (v := 1) hx hb dX1_call_60 (by decide) ?_
            refine lv_iadd hx hb dX1_call_61 ?_
            obtain ⟨r_11, w_12, w_13, hc_14, hf⟩ := mm_bd3s hf
            refine mm_callVF (q0 := 0) (ci := 1) (rest := []) C0 lk_X1_42 (hgo a _ _ _ _ _ _ _ _ _ _ _ _ _ hc_14) (by omega) rfl hl.1 rfl (mm_cat rfl) dX1_call_62 hP hD hA hS rfl rfl (fun H locs hP hD hS => ?_)
            refine W.eq (g2 := F0 m 65 ls [.int r_11]) rfl ?_
            refine lv_goto (tgt := 69) hx hb dX1_call_65 (by decide) ?_
            apply mm_sub3 hf
            exact mm_iret C0 hP hD hS dX1_call_69

def fX1_call (N : Nat) (go : Int32 → Int32 → Int32 → Int32 → Int32 → Int32 → Int32 → List Int32 → Option (Int32 × Int32 × List Int32)) (x1 : Int32) (x2 : Int32) (x3 : Int32) (x4 : Int32) (x5 : Int32) (v_ran : Int32) (v_number : Int32) (v_trace : List Int32) : Option (Int32 × Int32 × List Int32) :=
    fX1_call_6 N go N x1 x3 x4 x5 x2 (0 : Int32) v_ran v_number v_trace

set_option maxHeartbeats 4000000 in
set_option maxRecDepth 100000 in
theorem ctX1_call {l : Launch} {D : va_G} {cI cL cS cH : ClassId} {a : Nat → Nat} {x1 : Int32} {x2 : Int32} {x3 : Int32} {x4 : Int32} {x5 : Int32} {v_size : Int32} {v_ran : Int32} {v_number : Int32} {v_kinds : List Int32} {v_trace : List Int32} {r : Int32} {w_ran : Int32} {w_trace : List Int32} {N d : Nat} {go : Int32 → Int32 → Int32 → Int32 → Int32 → Int32 → Int32 → List Int32 → Option (Int32 × Int32 × List Int32)} {dgo : Nat} (hgo : ∀ (a : Nat → Nat) (x1 : Int32) (x2 : Int32) (x3 : Int32) (x4 : Int32) (x5 : Int32) (v_size : Int32) (v_ran : Int32) (v_number : Int32) (v_kinds : List Int32) (v_trace : List Int32) (r : Int32) (w_ran : Int32) (w_trace : List Int32), go x1 x2 x3 x4 x5 v_ran v_number v_trace = some (r, w_ran, w_trace) → mm_Ct l yX1_run cX1_run 6 (some .int) dgo D (mm_T cI cL cS cH) [.ref (a 0), .int x1, .int x2, .int x3, .int x4, .int x5] (wd_X1 cI cL cS cH a v_size v_ran v_number v_kinds v_trace) (wd_X1 cI cL cS cH a v_size w_ran v_number v_kinds w_trace) (some (.int r))) (hE : 1 ≤ dgo) (hd : dgo + 1 ≤ d) (hf : fX1_call N go x1 x2 x3 x4 x5 v_ran v_number v_trace = some (r, w_ran, w_trace)) : mm_Ct l yX1_call cX1_call 8 (some .int) d D (mm_T cI cL cS cH) [.ref (a 0), .int x1, .int x2, .int x3, .int x4, .int x5] (wd_X1 cI cL cS cH a v_size v_ran v_number v_kinds v_trace) (wd_X1 cI cL cS cH a v_size w_ran v_number v_kinds w_trace) (some (.int r)) := by
  refine mm_of (by decide) (Nat.le_of_ble_eq_true rfl) ?_
  intro p e s m args below meth c A H locs ls C0 hP hD hA hS hl
  have C0 : mm_Cx p s m args meth c RX1 cX1_call 8 (some .int) D (mm_T cI cL cS cH) A := C0
  obtain ⟨hx, hb, hml, hown, hts, hr, hlocks, hK, hSt⟩ := id C0
  obtain ⟨⟨t_START, hZ_START, hT_START⟩, ⟨t_ABOVE, hZ_ABOVE, hT_ABOVE⟩, ⟨t_OWN, hZ_OWN, hT_OWN⟩, hNest⟩ := hSt
  have hl : lv_has ls 8 [(0, .ref (a 0)), (1, .int x1), (2, .int x2), (3, .int x3), (4, .int x4), (5, .int x5)] := hl
  unfold fX1_call at hf
  refine lv_iload_n hx hb dX1_call_0 rfl (lv_at hl 2 rfl) ?_
  refine lv_istore (lv' := [(6, .int x2), (0, .ref (a 0)), (1, .int x1), (2, .int x2), (3, .int x3), (4, .int x4), (5, .int x5)]) hx hb dX1_call_1 hl (by decide) rfl (fun ls hl => ?_)
  refine lv_iconst (v := 0) hx hb dX1_call_3 (by decide) ?_
  refine lv_istore (lv' := [(7, .int (0 : Int32)), (6, .int x2), (0, .ref (a 0)), (1, .int x1), (2, .int x2), (3, .int x3), (4, .int x4), (5, .int x5)]) hx hb dX1_call_4 hl (by decide) rfl (fun ls hl => ?_)
  exact tX1_call_6 hgo hE hd C0 hA N  N _ _ _ _ _ _ _ _ _ H locs ls hf hP hD hS (lv_sub hl [2, 3, 5, 6, 7, 1, 0] rfl)

theorem dX1_run_6 : decode cX1_run 6 = .ok (.lookupswitch 310 #[(1, 114), (2, 122), (10, 145), (11, 159), (20, 167), (30, 181), (40, 194), (41, 208), (50, 222), (60, 245), (70, 259), (80, 273), (81, 296)], 114) := by decide +kernel
theorem nb_dX1_run_0 : bls_w cX1_run [(0, [42]), (1, [27]), (2, [182, 0, 45]), (5, [27]), (120, [21, 4]), (122, [42]), (123, [180, 0, 32]), (126, [96]), (127, [172]), (128, [42]), (129, [28]), (130, [28])] := bls_of (by decide +kernel)
theorem dX1_run_0 : decode cX1_run 0 = .ok (.aload_n 0, 1) := op_42 nb_dX1_run_0.1
theorem dX1_run_1 : decode cX1_run 1 = .ok (.iload_n 1, 1) := op_27 nb_dX1_run_0.2.1
set_option maxRecDepth 100000 in
theorem dX1_run_2 : decode cX1_run 2 = .ok (.invokevirtual 45, 3) := (op_182 nb_dX1_run_0.2.2.1).trans rfl
theorem dX1_run_5 : decode cX1_run 5 = .ok (.iload_n 1, 1) := op_27 nb_dX1_run_0.2.2.2.1
set_option maxRecDepth 100000 in
theorem dX1_run_120 : decode cX1_run 120 = .ok (.iload 4, 2) := (op_21 nb_dX1_run_0.2.2.2.2.1).trans rfl
theorem dX1_run_122 : decode cX1_run 122 = .ok (.aload_n 0, 1) := op_42 nb_dX1_run_0.2.2.2.2.2.1
set_option maxRecDepth 100000 in
theorem dX1_run_123 : decode cX1_run 123 = .ok (.getfield 32, 3) := (op_180 nb_dX1_run_0.2.2.2.2.2.2.1).trans rfl
theorem dX1_run_126 : decode cX1_run 126 = .ok (.iadd, 1) := op_96 nb_dX1_run_0.2.2.2.2.2.2.2.1
theorem dX1_run_127 : decode cX1_run 127 = .ok (.ireturn, 1) := op_172 nb_dX1_run_0.2.2.2.2.2.2.2.2.1
theorem dX1_run_128 : decode cX1_run 128 = .ok (.aload_n 0, 1) := op_42 nb_dX1_run_0.2.2.2.2.2.2.2.2.2.1
theorem dX1_run_129 : decode cX1_run 129 = .ok (.iload_n 2, 1) := op_28 nb_dX1_run_0.2.2.2.2.2.2.2.2.2.2.1
theorem dX1_run_130 : decode cX1_run 130 = .ok (.iload_n 2, 1) := op_28 nb_dX1_run_0.2.2.2.2.2.2.2.2.2.2.2.1
theorem nb_dX1_run_131 : bls_w cX1_run [(131, [4]), (132, [21, 4]), (134, [21, 5]), (136, [182, 0, 35]), (139, [42]), (140, [28]), (141, [28]), (142, [5]), (143, [4]), (144, [21, 5]), (146, [182, 0, 35]), (149, [100])] := bls_of (by decide +kernel)
theorem dX1_run_131 : decode cX1_run 131 = .ok (.iconst 1, 1) := op_4 nb_dX1_run_131.1
set_option maxRecDepth 100000 in
theorem dX1_run_132 : decode cX1_run 132 = .ok (.iload 4, 2) := (op_21 nb_dX1_run_131.2.1).trans rfl
set_option maxRecDepth 100000 in
theorem dX1_run_134 : decode cX1_run 134 = .ok (.iload 5, 2) := (op_21 nb_dX1_run_131.2.2.1).trans rfl
set_option maxRecDepth 100000 in
theorem dX1_run_136 : decode cX1_run 136 = .ok (.invokevirtual 35, 3) := (op_182 nb_dX1_run_131.2.2.2.1).trans rfl
theorem dX1_run_139 : decode cX1_run 139 = .ok (.aload_n 0, 1) := op_42 nb_dX1_run_131.2.2.2.2.1
theorem dX1_run_140 : decode cX1_run 140 = .ok (.iload_n 2, 1) := op_28 nb_dX1_run_131.2.2.2.2.2.1
theorem dX1_run_141 : decode cX1_run 141 = .ok (.iload_n 2, 1) := op_28 nb_dX1_run_131.2.2.2.2.2.2.1
theorem dX1_run_142 : decode cX1_run 142 = .ok (.iconst 2, 1) := op_5 nb_dX1_run_131.2.2.2.2.2.2.2.1
theorem dX1_run_143 : decode cX1_run 143 = .ok (.iconst 1, 1) := op_4 nb_dX1_run_131.2.2.2.2.2.2.2.2.1
set_option maxRecDepth 100000 in
theorem dX1_run_144 : decode cX1_run 144 = .ok (.iload 5, 2) := (op_21 nb_dX1_run_131.2.2.2.2.2.2.2.2.2.1).trans rfl
set_option maxRecDepth 100000 in
theorem dX1_run_146 : decode cX1_run 146 = .ok (.invokevirtual 35, 3) := (op_182 nb_dX1_run_131.2.2.2.2.2.2.2.2.2.2.1).trans rfl
theorem dX1_run_149 : decode cX1_run 149 = .ok (.isub, 1) := op_100 nb_dX1_run_131.2.2.2.2.2.2.2.2.2.2.2.1
theorem nb_dX1_run_150 : bls_w cX1_run [(150, [172]), (151, [42]), (152, [28]), (153, [28]), (154, [3]), (155, [21, 4]), (157, [21, 5]), (159, [182, 0, 35]), (162, [5]), (163, [104]), (164, [172]), (165, [21, 4])] := bls_of (by decide +kernel)
theorem dX1_run_150 : decode cX1_run 150 = .ok (.ireturn, 1) := op_172 nb_dX1_run_150.1
theorem dX1_run_151 : decode cX1_run 151 = .ok (.aload_n 0, 1) := op_42 nb_dX1_run_150.2.1
theorem dX1_run_152 : decode cX1_run 152 = .ok (.iload_n 2, 1) := op_28 nb_dX1_run_150.2.2.1
theorem dX1_run_153 : decode cX1_run 153 = .ok (.iload_n 2, 1) := op_28 nb_dX1_run_150.2.2.2.1
theorem dX1_run_154 : decode cX1_run 154 = .ok (.iconst 0, 1) := op_3 nb_dX1_run_150.2.2.2.2.1
set_option maxRecDepth 100000 in
theorem dX1_run_155 : decode cX1_run 155 = .ok (.iload 4, 2) := (op_21 nb_dX1_run_150.2.2.2.2.2.1).trans rfl
set_option maxRecDepth 100000 in
theorem dX1_run_157 : decode cX1_run 157 = .ok (.iload 5, 2) := (op_21 nb_dX1_run_150.2.2.2.2.2.2.1).trans rfl
set_option maxRecDepth 100000 in
theorem dX1_run_159 : decode cX1_run 159 = .ok (.invokevirtual 35, 3) := (op_182 nb_dX1_run_150.2.2.2.2.2.2.2.1).trans rfl
theorem dX1_run_162 : decode cX1_run 162 = .ok (.iconst 2, 1) := op_5 nb_dX1_run_150.2.2.2.2.2.2.2.2.1
theorem dX1_run_163 : decode cX1_run 163 = .ok (.imul, 1) := op_104 nb_dX1_run_150.2.2.2.2.2.2.2.2.2.1
theorem dX1_run_164 : decode cX1_run 164 = .ok (.ireturn, 1) := op_172 nb_dX1_run_150.2.2.2.2.2.2.2.2.2.2.1
set_option maxRecDepth 100000 in
theorem dX1_run_165 : decode cX1_run 165 = .ok (.iload 4, 2) := (op_21 nb_dX1_run_150.2.2.2.2.2.2.2.2.2.2.2.1).trans rfl
theorem nb_dX1_run_167 : bls_w cX1_run [(167, [42]), (168, [180, 0, 32]), (171, [130]), (172, [172]), (173, [42]), (174, [28]), (175, [29]), (176, [3]), (177, [21, 4]), (179, [21, 5]), (181, [182, 0, 35]), (184, [6])] := bls_of (by decide +kernel)
theorem dX1_run_167 : decode cX1_run 167 = .ok (.aload_n 0, 1) := op_42 nb_dX1_run_167.1
set_option maxRecDepth 100000 in
theorem dX1_run_168 : decode cX1_run 168 = .ok (.getfield 32, 3) := (op_180 nb_dX1_run_167.2.1).trans rfl
theorem dX1_run_171 : decode cX1_run 171 = .ok (.ixor, 1) := op_130 nb_dX1_run_167.2.2.1
theorem dX1_run_172 : decode cX1_run 172 = .ok (.ireturn, 1) := op_172 nb_dX1_run_167.2.2.2.1
theorem dX1_run_173 : decode cX1_run 173 = .ok (.aload_n 0, 1) := op_42 nb_dX1_run_167.2.2.2.2.1
theorem dX1_run_174 : decode cX1_run 174 = .ok (.iload_n 2, 1) := op_28 nb_dX1_run_167.2.2.2.2.2.1
theorem dX1_run_175 : decode cX1_run 175 = .ok (.iload_n 3, 1) := op_29 nb_dX1_run_167.2.2.2.2.2.2.1
theorem dX1_run_176 : decode cX1_run 176 = .ok (.iconst 0, 1) := op_3 nb_dX1_run_167.2.2.2.2.2.2.2.1
set_option maxRecDepth 100000 in
theorem dX1_run_177 : decode cX1_run 177 = .ok (.iload 4, 2) := (op_21 nb_dX1_run_167.2.2.2.2.2.2.2.2.1).trans rfl
set_option maxRecDepth 100000 in
theorem dX1_run_179 : decode cX1_run 179 = .ok (.iload 5, 2) := (op_21 nb_dX1_run_167.2.2.2.2.2.2.2.2.2.1).trans rfl
set_option maxRecDepth 100000 in
theorem dX1_run_181 : decode cX1_run 181 = .ok (.invokevirtual 35, 3) := (op_182 nb_dX1_run_167.2.2.2.2.2.2.2.2.2.2.1).trans rfl
theorem dX1_run_184 : decode cX1_run 184 = .ok (.iconst 3, 1) := op_6 nb_dX1_run_167.2.2.2.2.2.2.2.2.2.2.2.1
theorem nb_dX1_run_185 : bls_w cX1_run [(185, [96]), (186, [172]), (187, [42]), (188, [28]), (189, [29]), (190, [4]), (191, [21, 4]), (193, [21, 5]), (195, [182, 0, 35]), (198, [116]), (199, [172]), (200, [42])] := bls_of (by decide +kernel)
theorem dX1_run_185 : decode cX1_run 185 = .ok (.iadd, 1) := op_96 nb_dX1_run_185.1
theorem dX1_run_186 : decode cX1_run 186 = .ok (.ireturn, 1) := op_172 nb_dX1_run_185.2.1
theorem dX1_run_187 : decode cX1_run 187 = .ok (.aload_n 0, 1) := op_42 nb_dX1_run_185.2.2.1
theorem dX1_run_188 : decode cX1_run 188 = .ok (.iload_n 2, 1) := op_28 nb_dX1_run_185.2.2.2.1
theorem dX1_run_189 : decode cX1_run 189 = .ok (.iload_n 3, 1) := op_29 nb_dX1_run_185.2.2.2.2.1
theorem dX1_run_190 : decode cX1_run 190 = .ok (.iconst 1, 1) := op_4 nb_dX1_run_185.2.2.2.2.2.1
set_option maxRecDepth 100000 in
theorem dX1_run_191 : decode cX1_run 191 = .ok (.iload 4, 2) := (op_21 nb_dX1_run_185.2.2.2.2.2.2.1).trans rfl
set_option maxRecDepth 100000 in
theorem dX1_run_193 : decode cX1_run 193 = .ok (.iload 5, 2) := (op_21 nb_dX1_run_185.2.2.2.2.2.2.2.1).trans rfl
set_option maxRecDepth 100000 in
theorem dX1_run_195 : decode cX1_run 195 = .ok (.invokevirtual 35, 3) := (op_182 nb_dX1_run_185.2.2.2.2.2.2.2.2.1).trans rfl
theorem dX1_run_198 : decode cX1_run 198 = .ok (.ineg, 1) := op_116 nb_dX1_run_185.2.2.2.2.2.2.2.2.2.1
theorem dX1_run_199 : decode cX1_run 199 = .ok (.ireturn, 1) := op_172 nb_dX1_run_185.2.2.2.2.2.2.2.2.2.2.1
theorem dX1_run_200 : decode cX1_run 200 = .ok (.aload_n 0, 1) := op_42 nb_dX1_run_185.2.2.2.2.2.2.2.2.2.2.2.1
theorem nb_dX1_run_201 : bls_w cX1_run [(201, [28]), (202, [29]), (203, [5]), (204, [21, 4]), (206, [21, 5]), (208, [182, 0, 35]), (211, [6]), (212, [104]), (213, [172]), (214, [42]), (215, [28]), (216, [29])] := bls_of (by decide +kernel)
theorem dX1_run_201 : decode cX1_run 201 = .ok (.iload_n 2, 1) := op_28 nb_dX1_run_201.1
theorem dX1_run_202 : decode cX1_run 202 = .ok (.iload_n 3, 1) := op_29 nb_dX1_run_201.2.1
theorem dX1_run_203 : decode cX1_run 203 = .ok (.iconst 2, 1) := op_5 nb_dX1_run_201.2.2.1
set_option maxRecDepth 100000 in
theorem dX1_run_204 : decode cX1_run 204 = .ok (.iload 4, 2) := (op_21 nb_dX1_run_201.2.2.2.1).trans rfl
set_option maxRecDepth 100000 in
theorem dX1_run_206 : decode cX1_run 206 = .ok (.iload 5, 2) := (op_21 nb_dX1_run_201.2.2.2.2.1).trans rfl
set_option maxRecDepth 100000 in
theorem dX1_run_208 : decode cX1_run 208 = .ok (.invokevirtual 35, 3) := (op_182 nb_dX1_run_201.2.2.2.2.2.1).trans rfl
theorem dX1_run_211 : decode cX1_run 211 = .ok (.iconst 3, 1) := op_6 nb_dX1_run_201.2.2.2.2.2.2.1
theorem dX1_run_212 : decode cX1_run 212 = .ok (.imul, 1) := op_104 nb_dX1_run_201.2.2.2.2.2.2.2.1
theorem dX1_run_213 : decode cX1_run 213 = .ok (.ireturn, 1) := op_172 nb_dX1_run_201.2.2.2.2.2.2.2.2.1
theorem dX1_run_214 : decode cX1_run 214 = .ok (.aload_n 0, 1) := op_42 nb_dX1_run_201.2.2.2.2.2.2.2.2.2.1
theorem dX1_run_215 : decode cX1_run 215 = .ok (.iload_n 2, 1) := op_28 nb_dX1_run_201.2.2.2.2.2.2.2.2.2.2.1
theorem dX1_run_216 : decode cX1_run 216 = .ok (.iload_n 3, 1) := op_29 nb_dX1_run_201.2.2.2.2.2.2.2.2.2.2.2.1
theorem nb_dX1_run_217 : bls_w cX1_run [(217, [4]), (218, [21, 4]), (220, [4]), (221, [96]), (222, [21, 5]), (224, [182, 0, 35]), (227, [172]), (228, [42]), (229, [28]), (230, [29]), (231, [5]), (232, [21, 4])] := bls_of (by decide +kernel)
theorem dX1_run_217 : decode cX1_run 217 = .ok (.iconst 1, 1) := op_4 nb_dX1_run_217.1
set_option maxRecDepth 100000 in
theorem dX1_run_218 : decode cX1_run 218 = .ok (.iload 4, 2) := (op_21 nb_dX1_run_217.2.1).trans rfl
theorem dX1_run_220 : decode cX1_run 220 = .ok (.iconst 1, 1) := op_4 nb_dX1_run_217.2.2.1
theorem dX1_run_221 : decode cX1_run 221 = .ok (.iadd, 1) := op_96 nb_dX1_run_217.2.2.2.1
set_option maxRecDepth 100000 in
theorem dX1_run_222 : decode cX1_run 222 = .ok (.iload 5, 2) := (op_21 nb_dX1_run_217.2.2.2.2.1).trans rfl
set_option maxRecDepth 100000 in
theorem dX1_run_224 : decode cX1_run 224 = .ok (.invokevirtual 35, 3) := (op_182 nb_dX1_run_217.2.2.2.2.2.1).trans rfl
theorem dX1_run_227 : decode cX1_run 227 = .ok (.ireturn, 1) := op_172 nb_dX1_run_217.2.2.2.2.2.2.1
theorem dX1_run_228 : decode cX1_run 228 = .ok (.aload_n 0, 1) := op_42 nb_dX1_run_217.2.2.2.2.2.2.2.1
theorem dX1_run_229 : decode cX1_run 229 = .ok (.iload_n 2, 1) := op_28 nb_dX1_run_217.2.2.2.2.2.2.2.2.1
theorem dX1_run_230 : decode cX1_run 230 = .ok (.iload_n 3, 1) := op_29 nb_dX1_run_217.2.2.2.2.2.2.2.2.2.1
theorem dX1_run_231 : decode cX1_run 231 = .ok (.iconst 2, 1) := op_5 nb_dX1_run_217.2.2.2.2.2.2.2.2.2.2.1
set_option maxRecDepth 100000 in
theorem dX1_run_232 : decode cX1_run 232 = .ok (.iload 4, 2) := (op_21 nb_dX1_run_217.2.2.2.2.2.2.2.2.2.2.2.1).trans rfl
theorem nb_dX1_run_234 : bls_w cX1_run [(234, [21, 5]), (236, [182, 0, 35]), (239, [42]), (240, [28]), (241, [28]), (242, [3]), (243, [5]), (244, [21, 5]), (246, [182, 0, 35]), (249, [100]), (250, [172]), (251, [42])] := bls_of (by decide +kernel)
set_option maxRecDepth 100000 in
theorem dX1_run_234 : decode cX1_run 234 = .ok (.iload 5, 2) := (op_21 nb_dX1_run_234.1).trans rfl
set_option maxRecDepth 100000 in
theorem dX1_run_236 : decode cX1_run 236 = .ok (.invokevirtual 35, 3) := (op_182 nb_dX1_run_234.2.1).trans rfl
theorem dX1_run_239 : decode cX1_run 239 = .ok (.aload_n 0, 1) := op_42 nb_dX1_run_234.2.2.1
theorem dX1_run_240 : decode cX1_run 240 = .ok (.iload_n 2, 1) := op_28 nb_dX1_run_234.2.2.2.1
theorem dX1_run_241 : decode cX1_run 241 = .ok (.iload_n 2, 1) := op_28 nb_dX1_run_234.2.2.2.2.1
theorem dX1_run_242 : decode cX1_run 242 = .ok (.iconst 0, 1) := op_3 nb_dX1_run_234.2.2.2.2.2.1
theorem dX1_run_243 : decode cX1_run 243 = .ok (.iconst 2, 1) := op_5 nb_dX1_run_234.2.2.2.2.2.2.1
set_option maxRecDepth 100000 in
theorem dX1_run_244 : decode cX1_run 244 = .ok (.iload 5, 2) := (op_21 nb_dX1_run_234.2.2.2.2.2.2.2.1).trans rfl
set_option maxRecDepth 100000 in
theorem dX1_run_246 : decode cX1_run 246 = .ok (.invokevirtual 35, 3) := (op_182 nb_dX1_run_234.2.2.2.2.2.2.2.2.1).trans rfl
theorem dX1_run_249 : decode cX1_run 249 = .ok (.isub, 1) := op_100 nb_dX1_run_234.2.2.2.2.2.2.2.2.2.1
theorem dX1_run_250 : decode cX1_run 250 = .ok (.ireturn, 1) := op_172 nb_dX1_run_234.2.2.2.2.2.2.2.2.2.2.1
theorem dX1_run_251 : decode cX1_run 251 = .ok (.aload_n 0, 1) := op_42 nb_dX1_run_234.2.2.2.2.2.2.2.2.2.2.2.1
theorem nb_dX1_run_252 : bls_w cX1_run [(252, [28]), (253, [29]), (254, [6]), (255, [21, 4]), (257, [21, 5]), (259, [182, 0, 35]), (262, [8]), (263, [130]), (264, [172]), (265, [42]), (266, [28]), (267, [29])] := bls_of (by decide +kernel)
theorem dX1_run_252 : decode cX1_run 252 = .ok (.iload_n 2, 1) := op_28 nb_dX1_run_252.1
theorem dX1_run_253 : decode cX1_run 253 = .ok (.iload_n 3, 1) := op_29 nb_dX1_run_252.2.1
theorem dX1_run_254 : decode cX1_run 254 = .ok (.iconst 3, 1) := op_6 nb_dX1_run_252.2.2.1
set_option maxRecDepth 100000 in
theorem dX1_run_255 : decode cX1_run 255 = .ok (.iload 4, 2) := (op_21 nb_dX1_run_252.2.2.2.1).trans rfl
set_option maxRecDepth 100000 in
theorem dX1_run_257 : decode cX1_run 257 = .ok (.iload 5, 2) := (op_21 nb_dX1_run_252.2.2.2.2.1).trans rfl
set_option maxRecDepth 100000 in
theorem dX1_run_259 : decode cX1_run 259 = .ok (.invokevirtual 35, 3) := (op_182 nb_dX1_run_252.2.2.2.2.2.1).trans rfl
theorem dX1_run_262 : decode cX1_run 262 = .ok (.iconst 5, 1) := op_8 nb_dX1_run_252.2.2.2.2.2.2.1
theorem dX1_run_263 : decode cX1_run 263 = .ok (.ixor, 1) := op_130 nb_dX1_run_252.2.2.2.2.2.2.2.1
theorem dX1_run_264 : decode cX1_run 264 = .ok (.ireturn, 1) := op_172 nb_dX1_run_252.2.2.2.2.2.2.2.2.1
theorem dX1_run_265 : decode cX1_run 265 = .ok (.aload_n 0, 1) := op_42 nb_dX1_run_252.2.2.2.2.2.2.2.2.2.1
theorem dX1_run_266 : decode cX1_run 266 = .ok (.iload_n 2, 1) := op_28 nb_dX1_run_252.2.2.2.2.2.2.2.2.2.2.1
theorem dX1_run_267 : decode cX1_run 267 = .ok (.iload_n 3, 1) := op_29 nb_dX1_run_252.2.2.2.2.2.2.2.2.2.2.2.1
theorem nb_dX1_run_268 : bls_w cX1_run [(268, [3]), (269, [21, 4]), (271, [21, 5]), (273, [182, 0, 35]), (276, [5]), (277, [104]), (278, [172]), (279, [42]), (280, [28]), (281, [29]), (282, [4]), (283, [21, 4])] := bls_of (by decide +kernel)
theorem dX1_run_268 : decode cX1_run 268 = .ok (.iconst 0, 1) := op_3 nb_dX1_run_268.1
set_option maxRecDepth 100000 in
theorem dX1_run_269 : decode cX1_run 269 = .ok (.iload 4, 2) := (op_21 nb_dX1_run_268.2.1).trans rfl
set_option maxRecDepth 100000 in
theorem dX1_run_271 : decode cX1_run 271 = .ok (.iload 5, 2) := (op_21 nb_dX1_run_268.2.2.1).trans rfl
set_option maxRecDepth 100000 in
theorem dX1_run_273 : decode cX1_run 273 = .ok (.invokevirtual 35, 3) := (op_182 nb_dX1_run_268.2.2.2.1).trans rfl
theorem dX1_run_276 : decode cX1_run 276 = .ok (.iconst 2, 1) := op_5 nb_dX1_run_268.2.2.2.2.1
theorem dX1_run_277 : decode cX1_run 277 = .ok (.imul, 1) := op_104 nb_dX1_run_268.2.2.2.2.2.1
theorem dX1_run_278 : decode cX1_run 278 = .ok (.ireturn, 1) := op_172 nb_dX1_run_268.2.2.2.2.2.2.1
theorem dX1_run_279 : decode cX1_run 279 = .ok (.aload_n 0, 1) := op_42 nb_dX1_run_268.2.2.2.2.2.2.2.1
theorem dX1_run_280 : decode cX1_run 280 = .ok (.iload_n 2, 1) := op_28 nb_dX1_run_268.2.2.2.2.2.2.2.2.1
theorem dX1_run_281 : decode cX1_run 281 = .ok (.iload_n 3, 1) := op_29 nb_dX1_run_268.2.2.2.2.2.2.2.2.2.1
theorem dX1_run_282 : decode cX1_run 282 = .ok (.iconst 1, 1) := op_4 nb_dX1_run_268.2.2.2.2.2.2.2.2.2.2.1
set_option maxRecDepth 100000 in
theorem dX1_run_283 : decode cX1_run 283 = .ok (.iload 4, 2) := (op_21 nb_dX1_run_268.2.2.2.2.2.2.2.2.2.2.2.1).trans rfl
theorem nb_dX1_run_285 : bls_w cX1_run [(285, [21, 5]), (287, [182, 0, 35]), (290, [42]), (291, [28]), (292, [28]), (293, [5]), (294, [5]), (295, [21, 5]), (297, [182, 0, 35]), (300, [96]), (301, [172]), (302, [42])] := bls_of (by decide +kernel)
set_option maxRecDepth 100000 in
theorem dX1_run_285 : decode cX1_run 285 = .ok (.iload 5, 2) := (op_21 nb_dX1_run_285.1).trans rfl
set_option maxRecDepth 100000 in
theorem dX1_run_287 : decode cX1_run 287 = .ok (.invokevirtual 35, 3) := (op_182 nb_dX1_run_285.2.1).trans rfl
theorem dX1_run_290 : decode cX1_run 290 = .ok (.aload_n 0, 1) := op_42 nb_dX1_run_285.2.2.1
theorem dX1_run_291 : decode cX1_run 291 = .ok (.iload_n 2, 1) := op_28 nb_dX1_run_285.2.2.2.1
theorem dX1_run_292 : decode cX1_run 292 = .ok (.iload_n 2, 1) := op_28 nb_dX1_run_285.2.2.2.2.1
theorem dX1_run_293 : decode cX1_run 293 = .ok (.iconst 2, 1) := op_5 nb_dX1_run_285.2.2.2.2.2.1
theorem dX1_run_294 : decode cX1_run 294 = .ok (.iconst 2, 1) := op_5 nb_dX1_run_285.2.2.2.2.2.2.1
set_option maxRecDepth 100000 in
theorem dX1_run_295 : decode cX1_run 295 = .ok (.iload 5, 2) := (op_21 nb_dX1_run_285.2.2.2.2.2.2.2.1).trans rfl
set_option maxRecDepth 100000 in
theorem dX1_run_297 : decode cX1_run 297 = .ok (.invokevirtual 35, 3) := (op_182 nb_dX1_run_285.2.2.2.2.2.2.2.2.1).trans rfl
theorem dX1_run_300 : decode cX1_run 300 = .ok (.iadd, 1) := op_96 nb_dX1_run_285.2.2.2.2.2.2.2.2.2.1
theorem dX1_run_301 : decode cX1_run 301 = .ok (.ireturn, 1) := op_172 nb_dX1_run_285.2.2.2.2.2.2.2.2.2.2.1
theorem dX1_run_302 : decode cX1_run 302 = .ok (.aload_n 0, 1) := op_42 nb_dX1_run_285.2.2.2.2.2.2.2.2.2.2.2.1
theorem nb_dX1_run_303 : bls_w cX1_run [(303, [28]), (304, [29]), (305, [6]), (306, [21, 4]), (308, [21, 5]), (310, [182, 0, 35]), (313, [4]), (314, [100]), (315, [172]), (316, [3]), (317, [172])] := bls_of (by decide +kernel)
theorem dX1_run_303 : decode cX1_run 303 = .ok (.iload_n 2, 1) := op_28 nb_dX1_run_303.1
theorem dX1_run_304 : decode cX1_run 304 = .ok (.iload_n 3, 1) := op_29 nb_dX1_run_303.2.1
theorem dX1_run_305 : decode cX1_run 305 = .ok (.iconst 3, 1) := op_6 nb_dX1_run_303.2.2.1
set_option maxRecDepth 100000 in
theorem dX1_run_306 : decode cX1_run 306 = .ok (.iload 4, 2) := (op_21 nb_dX1_run_303.2.2.2.1).trans rfl
set_option maxRecDepth 100000 in
theorem dX1_run_308 : decode cX1_run 308 = .ok (.iload 5, 2) := (op_21 nb_dX1_run_303.2.2.2.2.1).trans rfl
set_option maxRecDepth 100000 in
theorem dX1_run_310 : decode cX1_run 310 = .ok (.invokevirtual 35, 3) := (op_182 nb_dX1_run_303.2.2.2.2.2.1).trans rfl
theorem dX1_run_313 : decode cX1_run 313 = .ok (.iconst 1, 1) := op_4 nb_dX1_run_303.2.2.2.2.2.2.1
theorem dX1_run_314 : decode cX1_run 314 = .ok (.isub, 1) := op_100 nb_dX1_run_303.2.2.2.2.2.2.2.1
theorem dX1_run_315 : decode cX1_run 315 = .ok (.ireturn, 1) := op_172 nb_dX1_run_303.2.2.2.2.2.2.2.2.1
theorem dX1_run_316 : decode cX1_run 316 = .ok (.iconst 0, 1) := op_3 nb_dX1_run_303.2.2.2.2.2.2.2.2.2.1
theorem dX1_run_317 : decode cX1_run 317 = .ok (.ireturn, 1) := op_172 nb_dX1_run_303.2.2.2.2.2.2.2.2.2.2.1
def fX1_runo (N : Nat) (go : Int32 → Int32 → Int32 → Int32 → Int32 → Int32 → Int32 → List Int32 → Option (Int32 × Int32 × List Int32)) (x1 : Int32) (x2 : Int32) (x3 : Int32) (x4 : Int32) (x5 : Int32) (v_ran : Int32) (v_number : Int32) (v_trace : List Int32) : Option (Int32 × Int32 × List Int32) :=
    mm_bd2 (fX1_note N x1 v_ran v_trace) (fun (w_1 : Int32) (w_2 : List Int32) =>
    if x1 = (1 : Int32) then
    (some ((x4 + v_number), w_1, w_2))
    else (if x1 = (2 : Int32) then
    (mm_bd3 (fX1_call N go x2 x2 (1 : Int32) x4 x5 w_1 v_number w_2) (fun (r_6 : Int32) (w_7 : Int32) (w_8 : List Int32) =>
    mm_bd3 (fX1_call N go x2 x2 (2 : Int32) (1 : Int32) x5 w_7 v_number w_8) (fun (r_10 : Int32) (w_11 : Int32) (w_12 : List Int32) =>
    some ((r_6 - r_10), w_11, w_12))))
    else (if x1 = (10 : Int32) then
    (mm_bd3 (fX1_call N go x2 x2 (0 : Int32) x4 x5 w_1 v_number w_2) (fun (r_15 : Int32) (w_16 : Int32) (w_17 : List Int32) =>
    some ((r_15 * (2 : Int32)), w_16, w_17)))
    else (if x1 = (11 : Int32) then
    (some ((x4 ^^^ v_number), w_1, w_2))
    else (if x1 = (20 : Int32) then
    (mm_bd3 (fX1_call N go x2 x3 (0 : Int32) x4 x5 w_1 v_number w_2) (fun (r_21 : Int32) (w_22 : Int32) (w_23 : List Int32) =>
    some ((r_21 + (3 : Int32)), w_22, w_23)))
    else (if x1 = (30 : Int32) then
    (mm_bd3 (fX1_call N go x2 x3 (1 : Int32) x4 x5 w_1 v_number w_2) (fun (r_26 : Int32) (w_27 : Int32) (w_28 : List Int32) =>
    some ((-r_26), w_27, w_28)))
    else (if x1 = (40 : Int32) then
    (mm_bd3 (fX1_call N go x2 x3 (2 : Int32) x4 x5 w_1 v_number w_2) (fun (r_31 : Int32) (w_32 : Int32) (w_33 : List Int32) =>
    some ((r_31 * (3 : Int32)), w_32, w_33)))
    else (if x1 = (41 : Int32) then
    (mm_bd3 (fX1_call N go x2 x3 (1 : Int32) (x4 + (1 : Int32)) x5 w_1 v_number w_2) (fun (r_36 : Int32) (w_37 : Int32) (w_38 : List Int32) =>
    some (r_36, w_37, w_38)))
    else (if x1 = (50 : Int32) then
    (mm_bd3 (fX1_call N go x2 x3 (2 : Int32) x4 x5 w_1 v_number w_2) (fun (r_41 : Int32) (w_42 : Int32) (w_43 : List Int32) =>
    mm_bd3 (fX1_call N go x2 x2 (0 : Int32) (2 : Int32) x5 w_42 v_number w_43) (fun (r_45 : Int32) (w_46 : Int32) (w_47 : List Int32) =>
    some ((r_41 - r_45), w_46, w_47))))
    else (if x1 = (60 : Int32) then
    (mm_bd3 (fX1_call N go x2 x3 (3 : Int32) x4 x5 w_1 v_number w_2) (fun (r_50 : Int32) (w_51 : Int32) (w_52 : List Int32) =>
    some ((r_50 ^^^ (5 : Int32)), w_51, w_52)))
    else (if x1 = (70 : Int32) then
    (mm_bd3 (fX1_call N go x2 x3 (0 : Int32) x4 x5 w_1 v_number w_2) (fun (r_55 : Int32) (w_56 : Int32) (w_57 : List Int32) =>
    some ((r_55 * (2 : Int32)), w_56, w_57)))
    else (if x1 = (80 : Int32) then
    (mm_bd3 (fX1_call N go x2 x3 (1 : Int32) x4 x5 w_1 v_number w_2) (fun (r_60 : Int32) (w_61 : Int32) (w_62 : List Int32) =>
    mm_bd3 (fX1_call N go x2 x2 (2 : Int32) (2 : Int32) x5 w_61 v_number w_62) (fun (r_64 : Int32) (w_65 : Int32) (w_66 : List Int32) =>
    some ((r_60 + r_64), w_65, w_66))))
    else (if x1 = (81 : Int32) then
    (mm_bd3 (fX1_call N go x2 x3 (3 : Int32) x4 x5 w_1 v_number w_2) (fun (r_69 : Int32) (w_70 : Int32) (w_71 : List Int32) =>
    some ((r_69 - (1 : Int32)), w_70, w_71)))
    else (some ((0 : Int32), w_1, w_2)))))))))))))))

set_option maxHeartbeats 4000000 in
set_option maxRecDepth 100000 in
theorem ctX1_runo {l : Launch} {D : va_G} {cI cL cS cH : ClassId} {a : Nat → Nat} {x1 : Int32} {x2 : Int32} {x3 : Int32} {x4 : Int32} {x5 : Int32} {v_size : Int32} {v_ran : Int32} {v_number : Int32} {v_kinds : List Int32} {v_trace : List Int32} {r : Int32} {w_ran : Int32} {w_trace : List Int32} {N d : Nat} {go : Int32 → Int32 → Int32 → Int32 → Int32 → Int32 → Int32 → List Int32 → Option (Int32 × Int32 × List Int32)} {dgo : Nat} (hgo : ∀ (a : Nat → Nat) (x1 : Int32) (x2 : Int32) (x3 : Int32) (x4 : Int32) (x5 : Int32) (v_size : Int32) (v_ran : Int32) (v_number : Int32) (v_kinds : List Int32) (v_trace : List Int32) (r : Int32) (w_ran : Int32) (w_trace : List Int32), go x1 x2 x3 x4 x5 v_ran v_number v_trace = some (r, w_ran, w_trace) → mm_Ct l yX1_run cX1_run 6 (some .int) dgo D (mm_T cI cL cS cH) [.ref (a 0), .int x1, .int x2, .int x3, .int x4, .int x5] (wd_X1 cI cL cS cH a v_size v_ran v_number v_kinds v_trace) (wd_X1 cI cL cS cH a v_size w_ran v_number v_kinds w_trace) (some (.int r))) (hE : 1 ≤ dgo) (hd : dgo + 2 ≤ d) (hf : fX1_runo N go x1 x2 x3 x4 x5 v_ran v_number v_trace = some (r, w_ran, w_trace)) : mm_Ct l yX1_run cX1_run 6 (some .int) d D (mm_T cI cL cS cH) [.ref (a 0), .int x1, .int x2, .int x3, .int x4, .int x5] (wd_X1 cI cL cS cH a v_size v_ran v_number v_kinds v_trace) (wd_X1 cI cL cS cH a v_size w_ran v_number v_kinds w_trace) (some (.int r)) := by
  refine mm_of (by decide) (Nat.le_of_ble_eq_true rfl) ?_
  intro p e s m args below meth c A H locs ls C0 hP hD hA hS hl
  have C0 : mm_Cx p s m args meth c RX1 cX1_run 6 (some .int) D (mm_T cI cL cS cH) A := C0
  obtain ⟨hx, hb, hml, hown, hts, hr, hlocks, hK, hSt⟩ := id C0
  have hl : lv_has ls 6 [(0, .ref (a 0)), (1, .int x1), (2, .int x2), (3, .int x3), (4, .int x4), (5, .int x5)] := hl
  unfold fX1_runo at hf
  refine lv_aload_n hx hb dX1_run_0 rfl (lv_at hl 0 rfl) ?_
  refine lv_iload_n hx hb dX1_run_1 rfl (lv_at hl 1 rfl) ?_
  obtain ⟨w_1, w_2, hc_3, hf⟩ := mm_bd2s hf
  refine mm_callVF (q0 := 0) (ci := 1) (rest := []) C0 lk_X1_45 (ctX1_note (a := a) (d := d - 1) (by omega) hc_3) (by omega) rfl hl.1 rfl (mm_cat rfl) dX1_run_2 hP hD hA hS rfl rfl (fun H locs hP hD hS => ?_)
  refine W.eq (g2 := F0 m 5 ls []) rfl ?_
  refine lv_iload_n hx hb dX1_run_5 rfl (lv_at hl 1 rfl) ?_
  by_cases c_4 : x1 = (1 : Int32)
  · have hf := mm_ip hf c_4
    refine lv_lookup (off := 114) (tgt := 120) hx hb dX1_run_6 (by decide) (by rw [c_4]; first | done | rfl | decide) (by decide) ?_
    refine lv_iload hx hb dX1_run_120 (lv_at hl 4 rfl) ?_
    refine lv_aload_n hx hb dX1_run_122 rfl (lv_at hl 0 rfl) ?_
    refine mm_get C0 hP iw_X1 0 rfl rfl 4 (by decide) fl_X1_32 rfl dX1_run_123 ?_
    refine lv_iadd hx hb dX1_run_126 ?_
    apply mm_sub3 hf
    exact mm_iret C0 hP hD hS dX1_run_127
  · have hf := mm_in hf c_4
    by_cases c_5 : x1 = (2 : Int32)
    · have hf := mm_ip hf c_5
      refine lv_lookup (off := 122) (tgt := 128) hx hb dX1_run_6 (by decide) (by rw [c_5]; first | done | rfl | decide) (by decide) ?_
      refine lv_aload_n hx hb dX1_run_128 rfl (lv_at hl 0 rfl) ?_
      refine lv_iload_n hx hb dX1_run_129 rfl (lv_at hl 2 rfl) ?_
      refine lv_iload_n hx hb dX1_run_130 rfl (lv_at hl 2 rfl) ?_
      refine lv_iconst (v := 1) hx hb dX1_run_131 (by decide) ?_
      refine lv_iload hx hb dX1_run_132 (lv_at hl 4 rfl) ?_
      refine lv_iload hx hb dX1_run_134 (lv_at hl 5 rfl) ?_
      obtain ⟨r_6, w_7, w_8, hc_9, hf⟩ := mm_bd3s hf
      refine mm_callVF (q0 := 0) (ci := 1) (rest := []) C0 lk_X1_35 (ctX1_call (a := a) (d := d - 1) hgo hE (by omega) hc_9) (by omega) rfl hl.1 rfl (mm_cat rfl) dX1_run_136 hP hD hA hS rfl rfl (fun H locs hP hD hS => ?_)
      refine W.eq (g2 := F0 m 139 ls [.int r_6]) rfl ?_
      refine lv_aload_n hx hb dX1_run_139 rfl (lv_at hl 0 rfl) ?_
      refine lv_iload_n hx hb dX1_run_140 rfl (lv_at hl 2 rfl) ?_
      refine lv_iload_n hx hb dX1_run_141 rfl (lv_at hl 2 rfl) ?_
      refine lv_iconst (v := 2) hx hb dX1_run_142 (by decide) ?_
      refine lv_iconst (v := 1) hx hb dX1_run_143 (by decide) ?_
      refine lv_iload hx hb dX1_run_144 (lv_at hl 5 rfl) ?_
      obtain ⟨r_10, w_11, w_12, hc_13, hf⟩ := mm_bd3s hf
      refine mm_callVF (q0 := 0) (ci := 1) (rest := [.int r_6]) C0 lk_X1_35 (ctX1_call (a := a) (d := d - 1) hgo hE (by omega) hc_13) (by omega) rfl hl.1 rfl (mm_cat rfl) dX1_run_146 hP hD hA hS rfl rfl (fun H locs hP hD hS => ?_)
      refine W.eq (g2 := F0 m 149 ls [.int r_10, .int r_6]) rfl ?_
      refine lv_isub hx hb dX1_run_149 ?_
      apply mm_sub3 hf
      exact mm_iret C0 hP hD hS dX1_run_150
    · have hf := mm_in hf c_5
      by_cases c_14 : x1 = (10 : Int32)
      · have hf := mm_ip hf c_14
        refine lv_lookup (off := 145) (tgt := 151) hx hb dX1_run_6 (by decide) (by rw [c_14]; first | done | rfl | decide) (by decide) ?_
        refine lv_aload_n hx hb dX1_run_151 rfl (lv_at hl 0 rfl) ?_
        refine lv_iload_n hx hb dX1_run_152 rfl (lv_at hl 2 rfl) ?_
        refine lv_iload_n hx hb dX1_run_153 rfl (lv_at hl 2 rfl) ?_
        refine lv_iconst (v := 0) hx hb dX1_run_154 (by decide) ?_
        refine lv_iload hx hb dX1_run_155 (lv_at hl 4 rfl) ?_
        refine lv_iload hx hb dX1_run_157 (lv_at hl 5 rfl) ?_
        obtain ⟨r_15, w_16, w_17, hc_18, hf⟩ := mm_bd3s hf
        refine mm_callVF (q0 := 0) (ci := 1) (rest := []) C0 lk_X1_35 (ctX1_call (a := a) (d := d - 1) hgo hE (by omega) hc_18) (by omega) rfl hl.1 rfl (mm_cat rfl) dX1_run_159 hP hD hA hS rfl rfl (fun H locs hP hD hS => ?_)
        refine W.eq (g2 := F0 m 162 ls [.int r_15]) rfl ?_
        refine lv_iconst (v := 2) hx hb dX1_run_162 (by decide) ?_
        refine lv_imul hx hb dX1_run_163 ?_
        apply mm_sub3 hf
        exact mm_iret C0 hP hD hS dX1_run_164
      · have hf := mm_in hf c_14
        by_cases c_19 : x1 = (11 : Int32)
        · have hf := mm_ip hf c_19
          refine lv_lookup (off := 159) (tgt := 165) hx hb dX1_run_6 (by decide) (by rw [c_19]; first | done | rfl | decide) (by decide) ?_
          refine lv_iload hx hb dX1_run_165 (lv_at hl 4 rfl) ?_
          refine lv_aload_n hx hb dX1_run_167 rfl (lv_at hl 0 rfl) ?_
          refine mm_get C0 hP iw_X1 0 rfl rfl 4 (by decide) fl_X1_32 rfl dX1_run_168 ?_
          refine lv_ixor hx hb dX1_run_171 ?_
          apply mm_sub3 hf
          exact mm_iret C0 hP hD hS dX1_run_172
        · have hf := mm_in hf c_19
          by_cases c_20 : x1 = (20 : Int32)
          · have hf := mm_ip hf c_20
            refine lv_lookup (off := 167) (tgt := 173) hx hb dX1_run_6 (by decide) (by rw [c_20]; first | done | rfl | decide) (by decide) ?_
            refine lv_aload_n hx hb dX1_run_173 rfl (lv_at hl 0 rfl) ?_
            refine lv_iload_n hx hb dX1_run_174 rfl (lv_at hl 2 rfl) ?_
            refine lv_iload_n hx hb dX1_run_175 rfl (lv_at hl 3 rfl) ?_
            refine lv_iconst (v := 0) hx hb dX1_run_176 (by decide) ?_
            refine lv_iload hx hb dX1_run_177 (lv_at hl 4 rfl) ?_
            refine lv_iload hx hb dX1_run_179 (lv_at hl 5 rfl) ?_
            obtain ⟨r_21, w_22, w_23, hc_24, hf⟩ := mm_bd3s hf
            refine mm_callVF (q0 := 0) (ci := 1) (rest := []) C0 lk_X1_35 (ctX1_call (a := a) (d := d - 1) hgo hE (by omega) hc_24) (by omega) rfl hl.1 rfl (mm_cat rfl) dX1_run_181 hP hD hA hS rfl rfl (fun H locs hP hD hS => ?_)
            refine W.eq (g2 := F0 m 184 ls [.int r_21]) rfl ?_
            refine lv_iconst (v := 3) hx hb dX1_run_184 (by decide) ?_
            refine lv_iadd hx hb dX1_run_185 ?_
            apply mm_sub3 hf
            exact mm_iret C0 hP hD hS dX1_run_186
          · have hf := mm_in hf c_20
            by_cases c_25 : x1 = (30 : Int32)
            · have hf := mm_ip hf c_25
              refine lv_lookup (off := 181) (tgt := 187) hx hb dX1_run_6 (by decide) (by rw [c_25]; first | done | rfl | decide) (by decide) ?_
              refine lv_aload_n hx hb dX1_run_187 rfl (lv_at hl 0 rfl) ?_
              refine lv_iload_n hx hb dX1_run_188 rfl (lv_at hl 2 rfl) ?_
              refine lv_iload_n hx hb dX1_run_189 rfl (lv_at hl 3 rfl) ?_
              refine lv_iconst (v := 1) hx hb dX1_run_190 (by decide) ?_
              refine lv_iload hx hb dX1_run_191 (lv_at hl 4 rfl) ?_
              refine lv_iload hx hb dX1_run_193 (lv_at hl 5 rfl) ?_
              obtain ⟨r_26, w_27, w_28, hc_29, hf⟩ := mm_bd3s hf
              refine mm_callVF (q0 := 0) (ci := 1) (rest := []) C0 lk_X1_35 (ctX1_call (a := a) (d := d - 1) hgo hE (by omega) hc_29) (by omega) rfl hl.1 rfl (mm_cat rfl) dX1_run_195 hP hD hA hS rfl rfl (fun H locs hP hD hS => ?_)
              refine W.eq (g2 := F0 m 198 ls [.int r_26]) rfl ?_
              refine lv_ineg hx hb dX1_run_198 ?_
              apply mm_sub3 hf
              exact mm_iret C0 hP hD hS dX1_run_199
            · have hf := mm_in hf c_25
              by_cases c_30 : x1 = (40 : Int32)
              · have hf := mm_ip hf c_30
                refine lv_lookup (off := 194) (tgt := 200) hx hb dX1_run_6 (by decide) (by rw [c_30]; first | done | rfl | decide) (by decide) ?_
                refine lv_aload_n hx hb dX1_run_200 rfl (lv_at hl 0 rfl) ?_
                refine lv_iload_n hx hb dX1_run_201 rfl (lv_at hl 2 rfl) ?_
                refine lv_iload_n hx hb dX1_run_202 rfl (lv_at hl 3 rfl) ?_
                refine lv_iconst (v := 2) hx hb dX1_run_203 (by decide) ?_
                refine lv_iload hx hb dX1_run_204 (lv_at hl 4 rfl) ?_
                refine lv_iload hx hb dX1_run_206 (lv_at hl 5 rfl) ?_
                obtain ⟨r_31, w_32, w_33, hc_34, hf⟩ := mm_bd3s hf
                refine mm_callVF (q0 := 0) (ci := 1) (rest := []) C0 lk_X1_35 (ctX1_call (a := a) (d := d - 1) hgo hE (by omega) hc_34) (by omega) rfl hl.1 rfl (mm_cat rfl) dX1_run_208 hP hD hA hS rfl rfl (fun H locs hP hD hS => ?_)
                refine W.eq (g2 := F0 m 211 ls [.int r_31]) rfl ?_
                refine lv_iconst (v := 3) hx hb dX1_run_211 (by decide) ?_
                refine lv_imul hx hb dX1_run_212 ?_
                apply mm_sub3 hf
                exact mm_iret C0 hP hD hS dX1_run_213
              · have hf := mm_in hf c_30
                by_cases c_35 : x1 = (41 : Int32)
                · have hf := mm_ip hf c_35
                  refine lv_lookup (off := 208) (tgt := 214) hx hb dX1_run_6 (by decide) (by rw [c_35]; first | done | rfl | decide) (by decide) ?_
                  refine lv_aload_n hx hb dX1_run_214 rfl (lv_at hl 0 rfl) ?_
                  refine lv_iload_n hx hb dX1_run_215 rfl (lv_at hl 2 rfl) ?_
                  refine lv_iload_n hx hb dX1_run_216 rfl (lv_at hl 3 rfl) ?_
                  refine lv_iconst (v := 1) hx hb dX1_run_217 (by decide) ?_
                  refine lv_iload hx hb dX1_run_218 (lv_at hl 4 rfl) ?_
                  refine lv_iconst (v := 1) hx hb dX1_run_220 (by decide) ?_
                  refine lv_iadd hx hb dX1_run_221 ?_
                  refine lv_iload hx hb dX1_run_222 (lv_at hl 5 rfl) ?_
                  obtain ⟨r_36, w_37, w_38, hc_39, hf⟩ := mm_bd3s hf
                  refine mm_callVF (q0 := 0) (ci := 1) (rest := []) C0 lk_X1_35 (ctX1_call (a := a) (d := d - 1) hgo hE (by omega) hc_39) (by omega) rfl hl.1 rfl (mm_cat rfl) dX1_run_224 hP hD hA hS rfl rfl (fun H locs hP hD hS => ?_)
                  refine W.eq (g2 := F0 m 227 ls [.int r_36]) rfl ?_
                  apply mm_sub3 hf
                  exact mm_iret C0 hP hD hS dX1_run_227
                · have hf := mm_in hf c_35
                  by_cases c_40 : x1 = (50 : Int32)
                  · have hf := mm_ip hf c_40
                    refine lv_lookup (off := 222) (tgt := 228) hx hb dX1_run_6 (by decide) (by rw [c_40]; first | done | rfl | decide) (by decide) ?_
                    refine lv_aload_n hx hb dX1_run_228 rfl (lv_at hl 0 rfl) ?_
                    refine lv_iload_n hx hb dX1_run_229 rfl (lv_at hl 2 rfl) ?_
                    refine lv_iload_n hx hb dX1_run_230 rfl (lv_at hl 3 rfl) ?_
                    refine lv_iconst (v := 2) hx hb dX1_run_231 (by decide) ?_
                    refine lv_iload hx hb dX1_run_232 (lv_at hl 4 rfl) ?_
                    refine lv_iload hx hb dX1_run_234 (lv_at hl 5 rfl) ?_
                    obtain ⟨r_41, w_42, w_43, hc_44, hf⟩ := mm_bd3s hf
                    refine mm_callVF (q0 := 0) (ci := 1) (rest := []) C0 lk_X1_35 (ctX1_call (a := a) (d := d - 1) hgo hE (by omega) hc_44) (by omega) rfl hl.1 rfl (mm_cat rfl) dX1_run_236 hP hD hA hS rfl rfl (fun H locs hP hD hS => ?_)
                    refine W.eq (g2 := F0 m 239 ls [.int r_41]) rfl ?_
                    refine lv_aload_n hx hb dX1_run_239 rfl (lv_at hl 0 rfl) ?_
                    refine lv_iload_n hx hb dX1_run_240 rfl (lv_at hl 2 rfl) ?_
                    refine lv_iload_n hx hb dX1_run_241 rfl (lv_at hl 2 rfl) ?_
                    refine lv_iconst (v := 0) hx hb dX1_run_242 (by decide) ?_
                    refine lv_iconst (v := 2) hx hb dX1_run_243 (by decide) ?_
                    refine lv_iload hx hb dX1_run_244 (lv_at hl 5 rfl) ?_
                    obtain ⟨r_45, w_46, w_47, hc_48, hf⟩ := mm_bd3s hf
                    refine mm_callVF (q0 := 0) (ci := 1) (rest := [.int r_41]) C0 lk_X1_35 (ctX1_call (a := a) (d := d - 1) hgo hE (by omega) hc_48) (by omega) rfl hl.1 rfl (mm_cat rfl) dX1_run_246 hP hD hA hS rfl rfl (fun H locs hP hD hS => ?_)
                    refine W.eq (g2 := F0 m 249 ls [.int r_45, .int r_41]) rfl ?_
                    refine lv_isub hx hb dX1_run_249 ?_
                    apply mm_sub3 hf
                    exact mm_iret C0 hP hD hS dX1_run_250
                  · have hf := mm_in hf c_40
                    by_cases c_49 : x1 = (60 : Int32)
                    · have hf := mm_ip hf c_49
                      refine lv_lookup (off := 245) (tgt := 251) hx hb dX1_run_6 (by decide) (by rw [c_49]; first | done | rfl | decide) (by decide) ?_
                      refine lv_aload_n hx hb dX1_run_251 rfl (lv_at hl 0 rfl) ?_
                      refine lv_iload_n hx hb dX1_run_252 rfl (lv_at hl 2 rfl) ?_
                      refine lv_iload_n hx hb dX1_run_253 rfl (lv_at hl 3 rfl) ?_
                      refine lv_iconst (v := 3) hx hb dX1_run_254 (by decide) ?_
                      refine lv_iload hx hb dX1_run_255 (lv_at hl 4 rfl) ?_
                      refine lv_iload hx hb dX1_run_257 (lv_at hl 5 rfl) ?_
                      obtain ⟨r_50, w_51, w_52, hc_53, hf⟩ := mm_bd3s hf
                      refine mm_callVF (q0 := 0) (ci := 1) (rest := []) C0 lk_X1_35 (ctX1_call (a := a) (d := d - 1) hgo hE (by omega) hc_53) (by omega) rfl hl.1 rfl (mm_cat rfl) dX1_run_259 hP hD hA hS rfl rfl (fun H locs hP hD hS => ?_)
                      refine W.eq (g2 := F0 m 262 ls [.int r_50]) rfl ?_
                      refine lv_iconst (v := 5) hx hb dX1_run_262 (by decide) ?_
                      refine lv_ixor hx hb dX1_run_263 ?_
                      apply mm_sub3 hf
                      exact mm_iret C0 hP hD hS dX1_run_264
                    · have hf := mm_in hf c_49
                      by_cases c_54 : x1 = (70 : Int32)
                      · have hf := mm_ip hf c_54
                        refine lv_lookup (off := 259) (tgt := 265) hx hb dX1_run_6 (by decide) (by rw [c_54]; first | done | rfl | decide) (by decide) ?_
                        refine lv_aload_n hx hb dX1_run_265 rfl (lv_at hl 0 rfl) ?_
                        refine lv_iload_n hx hb dX1_run_266 rfl (lv_at hl 2 rfl) ?_
                        refine lv_iload_n hx hb dX1_run_267 rfl (lv_at hl 3 rfl) ?_
                        refine lv_iconst (v := 0) hx hb dX1_run_268 (by decide) ?_
                        refine lv_iload hx hb dX1_run_269 (lv_at hl 4 rfl) ?_
                        refine lv_iload hx hb dX1_run_271 (lv_at hl 5 rfl) ?_
                        obtain ⟨r_55, w_56, w_57, hc_58, hf⟩ := mm_bd3s hf
                        refine mm_callVF (q0 := 0) (ci := 1) (rest := []) C0 lk_X1_35 (ctX1_call (a := a) (d := d - 1) hgo hE (by omega) hc_58) (by omega) rfl hl.1 rfl (mm_cat rfl) dX1_run_273 hP hD hA hS rfl rfl (fun H locs hP hD hS => ?_)
                        refine W.eq (g2 := F0 m 276 ls [.int r_55]) rfl ?_
                        refine lv_iconst (v := 2) hx hb dX1_run_276 (by decide) ?_
                        refine lv_imul hx hb dX1_run_277 ?_
                        apply mm_sub3 hf
                        exact mm_iret C0 hP hD hS dX1_run_278
                      · have hf := mm_in hf c_54
                        by_cases c_59 : x1 = (80 : Int32)
                        · have hf := mm_ip hf c_59
                          refine lv_lookup (off := 273) (tgt := 279) hx hb dX1_run_6 (by decide) (by rw [c_59]; first | done | rfl | decide) (by decide) ?_
                          refine lv_aload_n hx hb dX1_run_279 rfl (lv_at hl 0 rfl) ?_
                          refine lv_iload_n hx hb dX1_run_280 rfl (lv_at hl 2 rfl) ?_
                          refine lv_iload_n hx hb dX1_run_281 rfl (lv_at hl 3 rfl) ?_
                          refine lv_iconst (v := 1) hx hb dX1_run_282 (by decide) ?_
                          refine lv_iload hx hb dX1_run_283 (lv_at hl 4 rfl) ?_
                          refine lv_iload hx hb dX1_run_285 (lv_at hl 5 rfl) ?_
                          obtain ⟨r_60, w_61, w_62, hc_63, hf⟩ := mm_bd3s hf
                          refine mm_callVF (q0 := 0) (ci := 1) (rest := []) C0 lk_X1_35 (ctX1_call (a := a) (d := d - 1) hgo hE (by omega) hc_63) (by omega) rfl hl.1 rfl (mm_cat rfl) dX1_run_287 hP hD hA hS rfl rfl (fun H locs hP hD hS => ?_)
                          refine W.eq (g2 := F0 m 290 ls [.int r_60]) rfl ?_
                          refine lv_aload_n hx hb dX1_run_290 rfl (lv_at hl 0 rfl) ?_
                          refine lv_iload_n hx hb dX1_run_291 rfl (lv_at hl 2 rfl) ?_
                          refine lv_iload_n hx hb dX1_run_292 rfl (lv_at hl 2 rfl) ?_
                          refine lv_iconst (v := 2) hx hb dX1_run_293 (by decide) ?_
                          refine lv_iconst (v := 2) hx hb dX1_run_294 (by decide) ?_
                          refine lv_iload hx hb dX1_run_295 (lv_at hl 5 rfl) ?_
                          obtain ⟨r_64, w_65, w_66, hc_67, hf⟩ := mm_bd3s hf
                          refine mm_callVF (q0 := 0) (ci := 1) (rest := [.int r_60]) C0 lk_X1_35 (ctX1_call (a := a) (d := d - 1) hgo hE (by omega) hc_67) (by omega) rfl hl.1 rfl (mm_cat rfl) dX1_run_297 hP hD hA hS rfl rfl (fun H locs hP hD hS => ?_)
                          refine W.eq (g2 := F0 m 300 ls [.int r_64, .int r_60]) rfl ?_
                          refine lv_iadd hx hb dX1_run_300 ?_
                          apply mm_sub3 hf
                          exact mm_iret C0 hP hD hS dX1_run_301
                        · have hf := mm_in hf c_59
                          by_cases c_68 : x1 = (81 : Int32)
                          · have hf := mm_ip hf c_68
                            refine lv_lookup (off := 296) (tgt := 302) hx hb dX1_run_6 (by decide) (by rw [c_68]; first | done | rfl | decide) (by decide) ?_
                            refine lv_aload_n hx hb dX1_run_302 rfl (lv_at hl 0 rfl) ?_
                            refine lv_iload_n hx hb dX1_run_303 rfl (lv_at hl 2 rfl) ?_
                            refine lv_iload_n hx hb dX1_run_304 rfl (lv_at hl 3 rfl) ?_
                            refine lv_iconst (v := 3) hx hb dX1_run_305 (by decide) ?_
                            refine lv_iload hx hb dX1_run_306 (lv_at hl 4 rfl) ?_
                            refine lv_iload hx hb dX1_run_308 (lv_at hl 5 rfl) ?_
                            obtain ⟨r_69, w_70, w_71, hc_72, hf⟩ := mm_bd3s hf
                            refine mm_callVF (q0 := 0) (ci := 1) (rest := []) C0 lk_X1_35 (ctX1_call (a := a) (d := d - 1) hgo hE (by omega) hc_72) (by omega) rfl hl.1 rfl (mm_cat rfl) dX1_run_310 hP hD hA hS rfl rfl (fun H locs hP hD hS => ?_)
                            refine W.eq (g2 := F0 m 313 ls [.int r_69]) rfl ?_
                            refine lv_iconst (v := 1) hx hb dX1_run_313 (by decide) ?_
                            refine lv_isub hx hb dX1_run_314 ?_
                            apply mm_sub3 hf
                            exact mm_iret C0 hP hD hS dX1_run_315
                          · have hf := mm_in hf c_68
                            refine lv_lookup (off := 310) (tgt := 316) hx hb dX1_run_6 (by decide) ((lv_osw c_4 (by decide)).trans ((lv_osw c_5 (by decide)).trans ((lv_osw c_14 (by decide)).trans ((lv_osw c_19 (by decide)).trans ((lv_osw c_20 (by decide)).trans ((lv_osw c_25 (by decide)).trans ((lv_osw c_30 (by decide)).trans ((lv_osw c_35 (by decide)).trans ((lv_osw c_40 (by decide)).trans ((lv_osw c_49 (by decide)).trans ((lv_osw c_54 (by decide)).trans ((lv_osw c_59 (by decide)).trans ((lv_osw c_68 (by decide)).trans (rfl)))))))))))))) (by decide) ?_
                            refine lv_iconst (v := 0) hx hb dX1_run_316 (by decide) ?_
                            apply mm_sub3 hf
                            exact mm_iret C0 hP hD hS dX1_run_317

def fX1_run (N : Nat) : Nat → Int32 → Int32 → Int32 → Int32 → Int32 → Int32 → Int32 → List Int32 → Option (Int32 × Int32 × List Int32)
  | 0 => fun _ _ _ _ _ _ _ _ => none
  | M + 1 => fX1_runo N (fX1_run N M)
set_option maxHeartbeats 4000000 in
set_option maxRecDepth 100000 in
theorem ctX1_run {l : Launch} {D : va_G} {cI cL cS cH : ClassId} {N : Nat} : ∀ (M d : Nat), 1 + 2 * M ≤ d → ∀ (a : Nat → Nat) (x1 : Int32) (x2 : Int32) (x3 : Int32) (x4 : Int32) (x5 : Int32) (v_size : Int32) (v_ran : Int32) (v_number : Int32) (v_kinds : List Int32) (v_trace : List Int32) (r : Int32) (w_ran : Int32) (w_trace : List Int32), fX1_run N M x1 x2 x3 x4 x5 v_ran v_number v_trace = some (r, w_ran, w_trace) → mm_Ct l yX1_run cX1_run 6 (some .int) d D (mm_T cI cL cS cH) [.ref (a 0), .int x1, .int x2, .int x3, .int x4, .int x5] (wd_X1 cI cL cS cH a v_size v_ran v_number v_kinds v_trace) (wd_X1 cI cL cS cH a v_size w_ran v_number v_kinds w_trace) (some (.int r)) := by
  intro M
  induction M with
  | zero =>
    intro d hd a x1 x2 x3 x4 x5 v_size v_ran v_number v_kinds v_trace r w_ran w_trace hf
    cases (show none = some _ from hf)
  | succ M ih =>
    intro d hd a x1 x2 x3 x4 x5 v_size v_ran v_number v_kinds v_trace r w_ran w_trace hf
    exact ctX1_runo (N := N) (ih (1 + 2 * M) (Nat.le_refl _)) (Nat.le_add_right _ _) (by omega) hf

theorem nb_dX1_perform_0 : bls_w cX1_perform [(0, [42]), (1, [3]), (2, [181, 0, 29]), (5, [42]), (6, [27]), (7, [182, 0, 22]), (10, [153, 0, 12]), (13, [28]), (14, [155, 0, 8]), (17, [28]), (18, [7]), (19, [161, 0, 5])] := bls_of (by decide +kernel)
theorem dX1_perform_0 : decode cX1_perform 0 = .ok (.aload_n 0, 1) := op_42 nb_dX1_perform_0.1
theorem dX1_perform_1 : decode cX1_perform 1 = .ok (.iconst 0, 1) := op_3 nb_dX1_perform_0.2.1
set_option maxRecDepth 100000 in
theorem dX1_perform_2 : decode cX1_perform 2 = .ok (.putfield 29, 3) := (op_181 nb_dX1_perform_0.2.2.1).trans rfl
theorem dX1_perform_5 : decode cX1_perform 5 = .ok (.aload_n 0, 1) := op_42 nb_dX1_perform_0.2.2.2.1
theorem dX1_perform_6 : decode cX1_perform 6 = .ok (.iload_n 1, 1) := op_27 nb_dX1_perform_0.2.2.2.2.1
set_option maxRecDepth 100000 in
theorem dX1_perform_7 : decode cX1_perform 7 = .ok (.invokevirtual 22, 3) := (op_182 nb_dX1_perform_0.2.2.2.2.2.1).trans rfl
set_option maxRecDepth 100000 in
theorem dX1_perform_10 : decode cX1_perform 10 = .ok (.ifCond .eq 12, 3) := (op_153 nb_dX1_perform_0.2.2.2.2.2.2.1).trans rfl
theorem dX1_perform_13 : decode cX1_perform 13 = .ok (.iload_n 2, 1) := op_28 nb_dX1_perform_0.2.2.2.2.2.2.2.1
set_option maxRecDepth 100000 in
theorem dX1_perform_14 : decode cX1_perform 14 = .ok (.ifCond .lt 8, 3) := (op_155 nb_dX1_perform_0.2.2.2.2.2.2.2.2.1).trans rfl
theorem dX1_perform_17 : decode cX1_perform 17 = .ok (.iload_n 2, 1) := op_28 nb_dX1_perform_0.2.2.2.2.2.2.2.2.2.1
theorem dX1_perform_18 : decode cX1_perform 18 = .ok (.iconst 4, 1) := op_7 nb_dX1_perform_0.2.2.2.2.2.2.2.2.2.2.1
set_option maxRecDepth 100000 in
theorem dX1_perform_19 : decode cX1_perform 19 = .ok (.if_icmp .lt 5, 3) := (op_161 nb_dX1_perform_0.2.2.2.2.2.2.2.2.2.2.2.1).trans rfl
theorem nb_dX1_perform_22 : bls_w cX1_perform [(22, [3]), (23, [172]), (24, [42]), (25, [27]), (26, [181, 0, 32]), (29, [42]), (30, [42]), (31, [180, 0, 9]), (34, [27]), (35, [46]), (36, [42]), (37, [180, 0, 9])] := bls_of (by decide +kernel)
theorem dX1_perform_22 : decode cX1_perform 22 = .ok (.iconst 0, 1) := op_3 nb_dX1_perform_22.1
theorem dX1_perform_23 : decode cX1_perform 23 = .ok (.ireturn, 1) := op_172 nb_dX1_perform_22.2.1
theorem dX1_perform_24 : decode cX1_perform 24 = .ok (.aload_n 0, 1) := op_42 nb_dX1_perform_22.2.2.1
theorem dX1_perform_25 : decode cX1_perform 25 = .ok (.iload_n 1, 1) := op_27 nb_dX1_perform_22.2.2.2.1
set_option maxRecDepth 100000 in
theorem dX1_perform_26 : decode cX1_perform 26 = .ok (.putfield 32, 3) := (op_181 nb_dX1_perform_22.2.2.2.2.1).trans rfl
theorem dX1_perform_29 : decode cX1_perform 29 = .ok (.aload_n 0, 1) := op_42 nb_dX1_perform_22.2.2.2.2.2.1
theorem dX1_perform_30 : decode cX1_perform 30 = .ok (.aload_n 0, 1) := op_42 nb_dX1_perform_22.2.2.2.2.2.2.1
set_option maxRecDepth 100000 in
theorem dX1_perform_31 : decode cX1_perform 31 = .ok (.getfield 9, 3) := (op_180 nb_dX1_perform_22.2.2.2.2.2.2.2.1).trans rfl
theorem dX1_perform_34 : decode cX1_perform 34 = .ok (.iload_n 1, 1) := op_27 nb_dX1_perform_22.2.2.2.2.2.2.2.2.1
theorem dX1_perform_35 : decode cX1_perform 35 = .ok (.iaload, 1) := op_46 nb_dX1_perform_22.2.2.2.2.2.2.2.2.2.1
theorem dX1_perform_36 : decode cX1_perform 36 = .ok (.aload_n 0, 1) := op_42 nb_dX1_perform_22.2.2.2.2.2.2.2.2.2.2.1
set_option maxRecDepth 100000 in
theorem dX1_perform_37 : decode cX1_perform 37 = .ok (.getfield 9, 3) := (op_180 nb_dX1_perform_22.2.2.2.2.2.2.2.2.2.2.2.1).trans rfl
theorem nb_dX1_perform_40 : bls_w cX1_perform [(40, [27]), (41, [46]), (42, [28]), (43, [29]), (44, [3]), (45, [182, 0, 35]), (48, [172])] := bls_of (by decide +kernel)
theorem dX1_perform_40 : decode cX1_perform 40 = .ok (.iload_n 1, 1) := op_27 nb_dX1_perform_40.1
theorem dX1_perform_41 : decode cX1_perform 41 = .ok (.iaload, 1) := op_46 nb_dX1_perform_40.2.1
theorem dX1_perform_42 : decode cX1_perform 42 = .ok (.iload_n 2, 1) := op_28 nb_dX1_perform_40.2.2.1
theorem dX1_perform_43 : decode cX1_perform 43 = .ok (.iload_n 3, 1) := op_29 nb_dX1_perform_40.2.2.2.1
theorem dX1_perform_44 : decode cX1_perform 44 = .ok (.iconst 0, 1) := op_3 nb_dX1_perform_40.2.2.2.2.1
set_option maxRecDepth 100000 in
theorem dX1_perform_45 : decode cX1_perform 45 = .ok (.invokevirtual 35, 3) := (op_182 nb_dX1_perform_40.2.2.2.2.2.1).trans rfl
theorem dX1_perform_48 : decode cX1_perform 48 = .ok (.ireturn, 1) := op_172 nb_dX1_perform_40.2.2.2.2.2.2.1
def fX1_perform (N : Nat) (x1 : Int32) (x2 : Int32) (x3 : Int32) (v_size : Int32) (v_ran : Int32) (v_number : Int32) (v_kinds : List Int32) (v_trace : List Int32) : Option (Int32 × Int32 × Int32 × List Int32) :=
    mm_bd1 (fX1_has N x1 v_size) (fun (r_1 : Bool) =>
    if r_1 = false then
    (some ((0 : Int32), (0 : Int32), v_number, v_trace))
    else (if x2 < 0 then
    (some ((0 : Int32), (0 : Int32), v_number, v_trace))
    else (if x2 < (4 : Int32) then
    (mm_ck (mm_inb x1 v_kinds.length) (mm_ck (mm_inb x1 v_kinds.length) (mm_bd3 (fX1_call N (fX1_run N 42) (mm_ig v_kinds x1) (mm_ig v_kinds x1) x2 x3 (0 : Int32) (0 : Int32) x1 v_trace) (fun (r_8 : Int32) (w_9 : Int32) (w_10 : List Int32) =>
    some (r_8, w_9, x1, w_10)))))
    else (some ((0 : Int32), (0 : Int32), v_number, v_trace)))))

set_option maxHeartbeats 4000000 in
set_option maxRecDepth 100000 in
theorem ctX1_perform {l : Launch} {D : va_G} {cI cL cS cH : ClassId} {a : Nat → Nat} {x1 : Int32} {x2 : Int32} {x3 : Int32} {v_size : Int32} {v_ran : Int32} {v_number : Int32} {v_kinds : List Int32} {v_trace : List Int32} {r : Int32} {w_ran : Int32} {w_number : Int32} {w_trace : List Int32} {N d : Nat} (hd : 87 ≤ d) (hf : fX1_perform N x1 x2 x3 v_size v_ran v_number v_kinds v_trace = some (r, w_ran, w_number, w_trace)) : mm_Ct l yX1_perform cX1_perform 4 (some .int) d D (mm_T cI cL cS cH) [.ref (a 0), .int x1, .int x2, .int x3] (wd_X1 cI cL cS cH a v_size v_ran v_number v_kinds v_trace) (wd_X1 cI cL cS cH a v_size w_ran w_number v_kinds w_trace) (some (.int r)) := by
  refine mm_of (by decide) (Nat.le_of_ble_eq_true rfl) ?_
  intro p e s m args below meth c A H locs ls C0 hP hD hA hS hl
  have C0 : mm_Cx p s m args meth c RX1 cX1_perform 4 (some .int) D (mm_T cI cL cS cH) A := C0
  obtain ⟨hx, hb, hml, hown, hts, hr, hlocks, hK, hSt⟩ := id C0
  have hl : lv_has ls 4 [(0, .ref (a 0)), (1, .int x1), (2, .int x2), (3, .int x3)] := hl
  unfold fX1_perform at hf
  refine lv_aload_n hx hb dX1_perform_0 rfl (lv_at hl 0 rfl) ?_
  refine lv_iconst (v := 0) hx hb dX1_perform_1 (by decide) ?_
  refine mm_put C0 hP hD hS iw_X1 tyX1 tyX1_ok nmX1 0 rfl rfl 1 (by decide) fl_X1_29 rfl rfl rfl (Nat.le_of_ble_eq_true rfl) dX1_perform_2 (w2 := (wd_X1 cI cL cS cH a v_size (0 : Int32) v_number v_kinds v_trace)) rfl (fun H locs hP hD hS => ?_)
  refine lv_aload_n hx hb dX1_perform_5 rfl (lv_at hl 0 rfl) ?_
  refine lv_iload_n hx hb dX1_perform_6 rfl (lv_at hl 1 rfl) ?_
  obtain ⟨r_1, hc_2, hf⟩ := mm_bd1s hf
  refine mm_callVF (q0 := 0) (ci := 1) (rest := []) C0 lk_X1_22 (ctX1_has (a := a) (d := d - 1) (by omega) hc_2) (by omega) rfl hl.1 rfl (mm_cat rfl) dX1_perform_7 hP hD hA hS rfl rfl (fun H locs hP hD hS => ?_)
  refine W.eq (g2 := F0 m 10 ls [.int (mm_b r_1)]) rfl ?_
  refine lv_if_eq (tgt := 22) hx hb dX1_perform_10 (by decide) (fun c_3 => ?_) (fun c_3 => ?_)
  · have hf := mm_ip hf (mm_b0 c_3)
    refine lv_iconst (v := 0) hx hb dX1_perform_22 (by decide) ?_
    apply mm_sub4 hf
    exact mm_iret C0 hP hD hS dX1_perform_23
  · have hf := mm_in hf (mm_b1 c_3)
    refine lv_iload_n hx hb dX1_perform_13 rfl (lv_at hl 2 rfl) ?_
    refine lv_if_lt (tgt := 22) hx hb dX1_perform_14 (by decide) (fun c_4 => ?_) (fun c_4 => ?_)
    · have hf := mm_ip hf c_4
      refine lv_iconst (v := 0) hx hb dX1_perform_22 (by decide) ?_
      apply mm_sub4 hf
      exact mm_iret C0 hP hD hS dX1_perform_23
    · have hf := mm_in hf c_4
      refine lv_iload_n hx hb dX1_perform_17 rfl (lv_at hl 2 rfl) ?_
      refine lv_iconst (v := 4) hx hb dX1_perform_18 (by decide) ?_
      refine lv_icmp_lt (tgt := 24) hx hb dX1_perform_19 (by decide) (fun c_5 => ?_) (fun c_5 => ?_)
      · have hf := mm_ip hf c_5
        refine lv_aload_n hx hb dX1_perform_24 rfl (lv_at hl 0 rfl) ?_
        refine lv_iload_n hx hb dX1_perform_25 rfl (lv_at hl 1 rfl) ?_
        refine mm_put C0 hP hD hS iw_X1 tyX1 tyX1_ok nmX1 0 rfl rfl 4 (by decide) fl_X1_32 rfl rfl rfl (Nat.le_of_ble_eq_true rfl) dX1_perform_26 (w2 := (wd_X1 cI cL cS cH a v_size (0 : Int32) x1 v_kinds v_trace)) rfl (fun H locs hP hD hS => ?_)
        refine lv_aload_n hx hb dX1_perform_29 rfl (lv_at hl 0 rfl) ?_
        refine lv_aload_n hx hb dX1_perform_30 rfl (lv_at hl 0 rfl) ?_
        refine mm_get C0 hP iw_X1 0 rfl rfl 2 (by decide) fl_X1_9 rfl dX1_perform_31 ?_
        refine lv_iload_n hx hb dX1_perform_34 rfl (lv_at hl 1 rfl) ?_
        obtain ⟨h_6, hf⟩ := mm_cks hf
        refine mm_iald C0 hP 1 rfl h_6 dX1_perform_35 ?_
        refine lv_aload_n hx hb dX1_perform_36 rfl (lv_at hl 0 rfl) ?_
        refine mm_get C0 hP iw_X1 0 rfl rfl 2 (by decide) fl_X1_9 rfl dX1_perform_37 ?_
        refine lv_iload_n hx hb dX1_perform_40 rfl (lv_at hl 1 rfl) ?_
        obtain ⟨h_7, hf⟩ := mm_cks hf
        refine mm_iald C0 hP 1 rfl h_7 dX1_perform_41 ?_
        refine lv_iload_n hx hb dX1_perform_42 rfl (lv_at hl 2 rfl) ?_
        refine lv_iload_n hx hb dX1_perform_43 rfl (lv_at hl 3 rfl) ?_
        refine lv_iconst (v := 0) hx hb dX1_perform_44 (by decide) ?_
        obtain ⟨r_8, w_9, w_10, hc_11, hf⟩ := mm_bd3s hf
        refine mm_callVF (q0 := 0) (ci := 1) (rest := []) C0 lk_X1_35 (ctX1_call (a := a) (d := d - 1) (dgo := 85) (ctX1_run (N := N) 42 85 (by decide)) (by decide) (by omega) hc_11) (by omega) rfl hl.1 rfl (mm_cat rfl) dX1_perform_45 hP hD hA hS rfl rfl (fun H locs hP hD hS => ?_)
        refine W.eq (g2 := F0 m 48 ls [.int r_8]) rfl ?_
        apply mm_sub4 hf
        exact mm_iret C0 hP hD hS dX1_perform_48
      · have hf := mm_in hf c_5
        refine lv_iconst (v := 0) hx hb dX1_perform_22 (by decide) ?_
        apply mm_sub4 hf
        exact mm_iret C0 hP hD hS dX1_perform_23

theorem nb_dX2_write_0 : bls_w cX2_write [(0, [42]), (1, [180, 0, 24]), (4, [16, 120]), (6, [161, 0, 5]), (9, [3]), (10, [172]), (11, [42]), (12, [180, 0, 9]), (15, [42]), (16, [180, 0, 24]), (19, [27]), (20, [79])] := bls_of (by decide +kernel)
theorem dX2_write_0 : decode cX2_write 0 = .ok (.aload_n 0, 1) := op_42 nb_dX2_write_0.1
set_option maxRecDepth 100000 in
theorem dX2_write_1 : decode cX2_write 1 = .ok (.getfield 24, 3) := (op_180 nb_dX2_write_0.2.1).trans rfl
set_option maxRecDepth 100000 in
theorem dX2_write_4 : decode cX2_write 4 = .ok (.bipush 120, 2) := (op_16 nb_dX2_write_0.2.2.1).trans rfl
set_option maxRecDepth 100000 in
theorem dX2_write_6 : decode cX2_write 6 = .ok (.if_icmp .lt 5, 3) := (op_161 nb_dX2_write_0.2.2.2.1).trans rfl
theorem dX2_write_9 : decode cX2_write 9 = .ok (.iconst 0, 1) := op_3 nb_dX2_write_0.2.2.2.2.1
theorem dX2_write_10 : decode cX2_write 10 = .ok (.ireturn, 1) := op_172 nb_dX2_write_0.2.2.2.2.2.1
theorem dX2_write_11 : decode cX2_write 11 = .ok (.aload_n 0, 1) := op_42 nb_dX2_write_0.2.2.2.2.2.2.1
set_option maxRecDepth 100000 in
theorem dX2_write_12 : decode cX2_write 12 = .ok (.getfield 9, 3) := (op_180 nb_dX2_write_0.2.2.2.2.2.2.2.1).trans rfl
theorem dX2_write_15 : decode cX2_write 15 = .ok (.aload_n 0, 1) := op_42 nb_dX2_write_0.2.2.2.2.2.2.2.2.1
set_option maxRecDepth 100000 in
theorem dX2_write_16 : decode cX2_write 16 = .ok (.getfield 24, 3) := (op_180 nb_dX2_write_0.2.2.2.2.2.2.2.2.2.1).trans rfl
theorem dX2_write_19 : decode cX2_write 19 = .ok (.iload_n 1, 1) := op_27 nb_dX2_write_0.2.2.2.2.2.2.2.2.2.2.1
theorem dX2_write_20 : decode cX2_write 20 = .ok (.iastore, 1) := op_79 nb_dX2_write_0.2.2.2.2.2.2.2.2.2.2.2.1
theorem nb_dX2_write_21 : bls_w cX2_write [(21, [42]), (22, [89]), (23, [180, 0, 24]), (26, [4]), (27, [96]), (28, [181, 0, 24]), (31, [4]), (32, [172])] := bls_of (by decide +kernel)
theorem dX2_write_21 : decode cX2_write 21 = .ok (.aload_n 0, 1) := op_42 nb_dX2_write_21.1
theorem dX2_write_22 : decode cX2_write 22 = .ok (.dup, 1) := op_89 nb_dX2_write_21.2.1
set_option maxRecDepth 100000 in
theorem dX2_write_23 : decode cX2_write 23 = .ok (.getfield 24, 3) := (op_180 nb_dX2_write_21.2.2.1).trans rfl
theorem dX2_write_26 : decode cX2_write 26 = .ok (.iconst 1, 1) := op_4 nb_dX2_write_21.2.2.2.1
theorem dX2_write_27 : decode cX2_write 27 = .ok (.iadd, 1) := op_96 nb_dX2_write_21.2.2.2.2.1
set_option maxRecDepth 100000 in
theorem dX2_write_28 : decode cX2_write 28 = .ok (.putfield 24, 3) := (op_181 nb_dX2_write_21.2.2.2.2.2.1).trans rfl
theorem dX2_write_31 : decode cX2_write 31 = .ok (.iconst 1, 1) := op_4 nb_dX2_write_21.2.2.2.2.2.2.1
theorem dX2_write_32 : decode cX2_write 32 = .ok (.ireturn, 1) := op_172 nb_dX2_write_21.2.2.2.2.2.2.2.1
def fX2_write (N : Nat) (x1 : Int32) (v_size : Int32) (v_tape : List Int32) : Option (Bool × Int32 × List Int32) :=
    if v_size < (120 : Int32) then
    (mm_ck (mm_inb v_size v_tape.length) (mm_nm (mm_is v_tape v_size x1) (fun (l_3 : List Int32) =>
    mm_nm ((v_size + (1 : Int32))) (fun (y_4 : Int32) =>
    some (true, y_4, l_3)))))
    else (some (false, v_size, v_tape))

set_option maxHeartbeats 4000000 in
set_option maxRecDepth 100000 in
theorem ctX2_write {l : Launch} {D : va_G} {cI cL cS cH : ClassId} {a : Nat → Nat} {x1 : Int32} {v_size : Int32} {v_stepCount : Int32} {v_draftCount : Int32} {v_place : Int32} {v_fault : Int32} {v_stacked : Int32} {v_tape : List Int32} {v_steps : List Int32} {v_draft : List Int32} {v_stack : List Int32} {r : Bool} {w_size : Int32} {w_tape : List Int32} {N d : Nat} (hd : 1 ≤ d) (hf : fX2_write N x1 v_size v_tape = some (r, w_size, w_tape)) : mm_Ct l yX2_write cX2_write 2 (some .boolean) d D (mm_T cI cL cS cH) [.ref (a 0), .int x1] (wd_X2 cI cL cS cH a v_size v_stepCount v_draftCount v_place v_fault v_stacked v_tape v_steps v_draft v_stack) (wd_X2 cI cL cS cH a w_size v_stepCount v_draftCount v_place v_fault v_stacked w_tape v_steps v_draft v_stack) (some (.int (mm_b r))) := by
  refine mm_of (by decide) (Nat.le_of_ble_eq_true rfl) ?_
  intro p e s m args below meth c A H locs ls C0 hP hD hA hS hl
  have C0 : mm_Cx p s m args meth c RX2 cX2_write 2 (some .boolean) D (mm_T cI cL cS cH) A := C0
  obtain ⟨hx, hb, hml, hown, hts, hr, hlocks, hK, hSt⟩ := id C0
  have hl : lv_has ls 2 [(0, .ref (a 0)), (1, .int x1)] := hl
  unfold fX2_write at hf
  refine lv_aload_n hx hb dX2_write_0 rfl (lv_at hl 0 rfl) ?_
  refine mm_get C0 hP iw_X2 0 rfl rfl 0 (by decide) fl_X2_24 rfl dX2_write_1 ?_
  refine lv_bipush (v := 120) hx hb dX2_write_4 (by decide) ?_
  refine lv_icmp_lt (tgt := 11) hx hb dX2_write_6 (by decide) (fun c_1 => ?_) (fun c_1 => ?_)
  · have hf := mm_ip hf c_1
    refine lv_aload_n hx hb dX2_write_11 rfl (lv_at hl 0 rfl) ?_
    refine mm_get C0 hP iw_X2 0 rfl rfl 1 (by decide) fl_X2_9 rfl dX2_write_12 ?_
    refine lv_aload_n hx hb dX2_write_15 rfl (lv_at hl 0 rfl) ?_
    refine mm_get C0 hP iw_X2 0 rfl rfl 0 (by decide) fl_X2_24 rfl dX2_write_16 ?_
    refine lv_iload_n hx hb dX2_write_19 rfl (lv_at hl 1 rfl) ?_
    obtain ⟨h_2, hf⟩ := mm_cks hf
    refine mm_iast C0 hP hD hS 1 rfl h_2 dX2_write_20 (w2 := (wd_X2 cI cL cS cH a v_size v_stepCount v_draftCount v_place v_fault v_stacked (mm_is v_tape v_size x1) v_steps v_draft v_stack)) rfl (fun H locs hP hD hS => ?_)
    generalize el_3 : (mm_is v_tape v_size x1) = l_3 at hP hD
    have hf := mm_nms hf el_3.symm
    refine lv_aload_n hx hb dX2_write_21 rfl (lv_at hl 0 rfl) ?_
    refine lv_dup hx hb dX2_write_22 rfl ?_
    refine mm_get C0 hP iw_X2 0 rfl rfl 0 (by decide) fl_X2_24 rfl dX2_write_23 ?_
    refine lv_iconst (v := 1) hx hb dX2_write_26 (by decide) ?_
    refine lv_iadd hx hb dX2_write_27 ?_
    refine lv_topi (fun y_4 ey_4 => ?_)
    have hf := mm_nms hf ey_4
    refine mm_put C0 hP hD hS iw_X2 tyX2 tyX2_ok nmX2 0 rfl rfl 0 (by decide) fl_X2_24 rfl rfl rfl (Nat.le_of_ble_eq_true rfl) dX2_write_28 (w2 := (wd_X2 cI cL cS cH a y_4 v_stepCount v_draftCount v_place v_fault v_stacked l_3 v_steps v_draft v_stack)) rfl (fun H locs hP hD hS => ?_)
    refine lv_iconst (v := 1) hx hb dX2_write_31 (by decide) ?_
    apply mm_sub3 hf
    exact mm_zret (v := true) C0 hP hD hS dX2_write_32 (by decide)
  · have hf := mm_in hf c_1
    refine lv_iconst (v := 0) hx hb dX2_write_9 (by decide) ?_
    apply mm_sub3 hf
    exact mm_zret (v := false) C0 hP hD hS dX2_write_10 (by decide)

theorem nb_dX2_fail_0 : bls_w cX2_fail [(0, [42]), (1, [180, 0, 31]), (4, [156, 0, 11]), (7, [42]), (8, [42]), (9, [180, 0, 28]), (12, [181, 0, 31]), (15, [177])] := bls_of (by decide +kernel)
theorem dX2_fail_0 : decode cX2_fail 0 = .ok (.aload_n 0, 1) := op_42 nb_dX2_fail_0.1
set_option maxRecDepth 100000 in
theorem dX2_fail_1 : decode cX2_fail 1 = .ok (.getfield 31, 3) := (op_180 nb_dX2_fail_0.2.1).trans rfl
set_option maxRecDepth 100000 in
theorem dX2_fail_4 : decode cX2_fail 4 = .ok (.ifCond .ge 11, 3) := (op_156 nb_dX2_fail_0.2.2.1).trans rfl
theorem dX2_fail_7 : decode cX2_fail 7 = .ok (.aload_n 0, 1) := op_42 nb_dX2_fail_0.2.2.2.1
theorem dX2_fail_8 : decode cX2_fail 8 = .ok (.aload_n 0, 1) := op_42 nb_dX2_fail_0.2.2.2.2.1
set_option maxRecDepth 100000 in
theorem dX2_fail_9 : decode cX2_fail 9 = .ok (.getfield 28, 3) := (op_180 nb_dX2_fail_0.2.2.2.2.2.1).trans rfl
set_option maxRecDepth 100000 in
theorem dX2_fail_12 : decode cX2_fail 12 = .ok (.putfield 31, 3) := (op_181 nb_dX2_fail_0.2.2.2.2.2.2.1).trans rfl
theorem dX2_fail_15 : decode cX2_fail 15 = .ok (.return_, 1) := op_177 nb_dX2_fail_0.2.2.2.2.2.2.2.1
def fX2_fail (N : Nat) (v_place : Int32) (v_fault : Int32) : Option (Int32) :=
    if 0 ≤ v_fault then
    (some (v_fault))
    else (some (v_place))

set_option maxHeartbeats 4000000 in
set_option maxRecDepth 100000 in
theorem ctX2_fail {l : Launch} {D : va_G} {cI cL cS cH : ClassId} {a : Nat → Nat}  {v_size : Int32} {v_stepCount : Int32} {v_draftCount : Int32} {v_place : Int32} {v_fault : Int32} {v_stacked : Int32} {v_tape : List Int32} {v_steps : List Int32} {v_draft : List Int32} {v_stack : List Int32} {w_fault : Int32} {N d : Nat} (hd : 1 ≤ d) (hf : fX2_fail N v_place v_fault = some w_fault) : mm_Ct l yX2_fail cX2_fail 1 none d D (mm_T cI cL cS cH) [.ref (a 0)] (wd_X2 cI cL cS cH a v_size v_stepCount v_draftCount v_place v_fault v_stacked v_tape v_steps v_draft v_stack) (wd_X2 cI cL cS cH a v_size v_stepCount v_draftCount v_place w_fault v_stacked v_tape v_steps v_draft v_stack) none := by
  refine mm_of (by decide) (Nat.le_of_ble_eq_true rfl) ?_
  intro p e s m args below meth c A H locs ls C0 hP hD hA hS hl
  have C0 : mm_Cx p s m args meth c RX2 cX2_fail 1 none D (mm_T cI cL cS cH) A := C0
  obtain ⟨hx, hb, hml, hown, hts, hr, hlocks, hK, hSt⟩ := id C0
  have hl : lv_has ls 1 [(0, .ref (a 0))] := hl
  unfold fX2_fail at hf
  refine lv_aload_n hx hb dX2_fail_0 rfl (lv_at hl 0 rfl) ?_
  refine mm_get C0 hP iw_X2 0 rfl rfl 7 (by decide) fl_X2_31 rfl dX2_fail_1 ?_
  refine lv_if_ge (tgt := 15) hx hb dX2_fail_4 (by decide) (fun c_1 => ?_) (fun c_1 => ?_)
  · have hf := mm_ip hf c_1
    obtain rfl := mm_inj1 hf
    exact mm_vret C0 hP hD hS dX2_fail_15
  · have hf := mm_in hf c_1
    refine lv_aload_n hx hb dX2_fail_7 rfl (lv_at hl 0 rfl) ?_
    refine lv_aload_n hx hb dX2_fail_8 rfl (lv_at hl 0 rfl) ?_
    refine mm_get C0 hP iw_X2 0 rfl rfl 6 (by decide) fl_X2_28 rfl dX2_fail_9 ?_
    refine mm_put C0 hP hD hS iw_X2 tyX2 tyX2_ok nmX2 0 rfl rfl 7 (by decide) fl_X2_31 rfl rfl rfl (Nat.le_of_ble_eq_true rfl) dX2_fail_12 (w2 := (wd_X2 cI cL cS cH a v_size v_stepCount v_draftCount v_place v_place v_stacked v_tape v_steps v_draft v_stack)) rfl (fun H locs hP hD hS => ?_)
    obtain rfl := mm_inj1 hf
    exact mm_vret C0 hP hD hS dX2_fail_15

theorem nb_dX2_next_0 : bls_w cX2_next [(0, [42]), (1, [180, 0, 28]), (4, [42]), (5, [180, 0, 24]), (8, [162, 0, 15]), (11, [42]), (12, [180, 0, 9]), (15, [42]), (16, [180, 0, 28]), (19, [46]), (20, [167, 0, 4]), (23, [2])] := bls_of (by decide +kernel)
theorem dX2_next_0 : decode cX2_next 0 = .ok (.aload_n 0, 1) := op_42 nb_dX2_next_0.1
set_option maxRecDepth 100000 in
theorem dX2_next_1 : decode cX2_next 1 = .ok (.getfield 28, 3) := (op_180 nb_dX2_next_0.2.1).trans rfl
theorem dX2_next_4 : decode cX2_next 4 = .ok (.aload_n 0, 1) := op_42 nb_dX2_next_0.2.2.1
set_option maxRecDepth 100000 in
theorem dX2_next_5 : decode cX2_next 5 = .ok (.getfield 24, 3) := (op_180 nb_dX2_next_0.2.2.2.1).trans rfl
set_option maxRecDepth 100000 in
theorem dX2_next_8 : decode cX2_next 8 = .ok (.if_icmp .ge 15, 3) := (op_162 nb_dX2_next_0.2.2.2.2.1).trans rfl
theorem dX2_next_11 : decode cX2_next 11 = .ok (.aload_n 0, 1) := op_42 nb_dX2_next_0.2.2.2.2.2.1
set_option maxRecDepth 100000 in
theorem dX2_next_12 : decode cX2_next 12 = .ok (.getfield 9, 3) := (op_180 nb_dX2_next_0.2.2.2.2.2.2.1).trans rfl
theorem dX2_next_15 : decode cX2_next 15 = .ok (.aload_n 0, 1) := op_42 nb_dX2_next_0.2.2.2.2.2.2.2.1
set_option maxRecDepth 100000 in
theorem dX2_next_16 : decode cX2_next 16 = .ok (.getfield 28, 3) := (op_180 nb_dX2_next_0.2.2.2.2.2.2.2.2.1).trans rfl
theorem dX2_next_19 : decode cX2_next 19 = .ok (.iaload, 1) := op_46 nb_dX2_next_0.2.2.2.2.2.2.2.2.2.1
set_option maxRecDepth 100000 in
theorem dX2_next_20 : decode cX2_next 20 = .ok (.goto 4, 3) := (op_167 nb_dX2_next_0.2.2.2.2.2.2.2.2.2.2.1).trans rfl
theorem dX2_next_23 : decode cX2_next 23 = .ok (.iconst (-1), 1) := op_2 nb_dX2_next_0.2.2.2.2.2.2.2.2.2.2.2.1
theorem nb_dX2_next_24 : bls_w cX2_next [(24, [172])] := bls_of (by decide +kernel)
theorem dX2_next_24 : decode cX2_next 24 = .ok (.ireturn, 1) := op_172 nb_dX2_next_24.1
def fX2_next (N : Nat) (v_size : Int32) (v_place : Int32) (v_tape : List Int32) : Option (Int32) :=
    if v_size ≤ v_place then
    (some ((-1 : Int32)))
    else (mm_ck (mm_inb v_place v_tape.length) (some ((mm_ig v_tape v_place))))

set_option maxHeartbeats 4000000 in
set_option maxRecDepth 100000 in
theorem ctX2_next {l : Launch} {D : va_G} {cI cL cS cH : ClassId} {a : Nat → Nat}  {v_size : Int32} {v_stepCount : Int32} {v_draftCount : Int32} {v_place : Int32} {v_fault : Int32} {v_stacked : Int32} {v_tape : List Int32} {v_steps : List Int32} {v_draft : List Int32} {v_stack : List Int32} {r : Int32} {N d : Nat} (hd : 1 ≤ d) (hf : fX2_next N v_size v_place v_tape = some r) : mm_Ct l yX2_next cX2_next 1 (some .int) d D (mm_T cI cL cS cH) [.ref (a 0)] (wd_X2 cI cL cS cH a v_size v_stepCount v_draftCount v_place v_fault v_stacked v_tape v_steps v_draft v_stack) (wd_X2 cI cL cS cH a v_size v_stepCount v_draftCount v_place v_fault v_stacked v_tape v_steps v_draft v_stack) (some (.int r)) := by
  refine mm_of (by decide) (Nat.le_of_ble_eq_true rfl) ?_
  intro p e s m args below meth c A H locs ls C0 hP hD hA hS hl
  have C0 : mm_Cx p s m args meth c RX2 cX2_next 1 (some .int) D (mm_T cI cL cS cH) A := C0
  obtain ⟨hx, hb, hml, hown, hts, hr, hlocks, hK, hSt⟩ := id C0
  have hl : lv_has ls 1 [(0, .ref (a 0))] := hl
  unfold fX2_next at hf
  refine lv_aload_n hx hb dX2_next_0 rfl (lv_at hl 0 rfl) ?_
  refine mm_get C0 hP iw_X2 0 rfl rfl 6 (by decide) fl_X2_28 rfl dX2_next_1 ?_
  refine lv_aload_n hx hb dX2_next_4 rfl (lv_at hl 0 rfl) ?_
  refine mm_get C0 hP iw_X2 0 rfl rfl 0 (by decide) fl_X2_24 rfl dX2_next_5 ?_
  refine lv_icmp_ge (tgt := 23) hx hb dX2_next_8 (by decide) (fun c_1 => ?_) (fun c_1 => ?_)
  · have hf := mm_ip hf c_1
    refine lv_iconst (v := -1) hx hb dX2_next_23 (by decide) ?_
    obtain rfl := mm_inj1 hf
    exact mm_iret C0 hP hD hS dX2_next_24
  · have hf := mm_in hf c_1
    refine lv_aload_n hx hb dX2_next_11 rfl (lv_at hl 0 rfl) ?_
    refine mm_get C0 hP iw_X2 0 rfl rfl 1 (by decide) fl_X2_9 rfl dX2_next_12 ?_
    refine lv_aload_n hx hb dX2_next_15 rfl (lv_at hl 0 rfl) ?_
    refine mm_get C0 hP iw_X2 0 rfl rfl 6 (by decide) fl_X2_28 rfl dX2_next_16 ?_
    obtain ⟨h_2, hf⟩ := mm_cks hf
    refine mm_iald C0 hP 1 rfl h_2 dX2_next_19 ?_
    refine lv_goto (tgt := 24) hx hb dX2_next_20 (by decide) ?_
    obtain rfl := mm_inj1 hf
    exact mm_iret C0 hP hD hS dX2_next_24

theorem nb_dX2_meets_0 : bls_w cX2_meets [(0, [42]), (1, [180, 0, 31]), (4, [156, 0, 15]), (7, [42]), (8, [182, 0, 72]), (11, [27]), (12, [160, 0, 7]), (15, [4]), (16, [167, 0, 4]), (19, [3]), (20, [172])] := bls_of (by decide +kernel)
theorem dX2_meets_0 : decode cX2_meets 0 = .ok (.aload_n 0, 1) := op_42 nb_dX2_meets_0.1
set_option maxRecDepth 100000 in
theorem dX2_meets_1 : decode cX2_meets 1 = .ok (.getfield 31, 3) := (op_180 nb_dX2_meets_0.2.1).trans rfl
set_option maxRecDepth 100000 in
theorem dX2_meets_4 : decode cX2_meets 4 = .ok (.ifCond .ge 15, 3) := (op_156 nb_dX2_meets_0.2.2.1).trans rfl
theorem dX2_meets_7 : decode cX2_meets 7 = .ok (.aload_n 0, 1) := op_42 nb_dX2_meets_0.2.2.2.1
set_option maxRecDepth 100000 in
theorem dX2_meets_8 : decode cX2_meets 8 = .ok (.invokevirtual 72, 3) := (op_182 nb_dX2_meets_0.2.2.2.2.1).trans rfl
theorem dX2_meets_11 : decode cX2_meets 11 = .ok (.iload_n 1, 1) := op_27 nb_dX2_meets_0.2.2.2.2.2.1
set_option maxRecDepth 100000 in
theorem dX2_meets_12 : decode cX2_meets 12 = .ok (.if_icmp .ne 7, 3) := (op_160 nb_dX2_meets_0.2.2.2.2.2.2.1).trans rfl
theorem dX2_meets_15 : decode cX2_meets 15 = .ok (.iconst 1, 1) := op_4 nb_dX2_meets_0.2.2.2.2.2.2.2.1
set_option maxRecDepth 100000 in
theorem dX2_meets_16 : decode cX2_meets 16 = .ok (.goto 4, 3) := (op_167 nb_dX2_meets_0.2.2.2.2.2.2.2.2.1).trans rfl
theorem dX2_meets_19 : decode cX2_meets 19 = .ok (.iconst 0, 1) := op_3 nb_dX2_meets_0.2.2.2.2.2.2.2.2.2.1
theorem dX2_meets_20 : decode cX2_meets 20 = .ok (.ireturn, 1) := op_172 nb_dX2_meets_0.2.2.2.2.2.2.2.2.2.2.1
def fX2_meets (N : Nat) (x1 : Int32) (v_size : Int32) (v_place : Int32) (v_fault : Int32) (v_tape : List Int32) : Option (Bool) :=
    if 0 ≤ v_fault then
    (some (false))
    else (mm_bd1 (fX2_next N v_size v_place v_tape) (fun (r_2 : Int32) =>
    if r_2 = x1 then
    (some (true))
    else (some (false))))

set_option maxHeartbeats 4000000 in
set_option maxRecDepth 100000 in
theorem ctX2_meets {l : Launch} {D : va_G} {cI cL cS cH : ClassId} {a : Nat → Nat} {x1 : Int32} {v_size : Int32} {v_stepCount : Int32} {v_draftCount : Int32} {v_place : Int32} {v_fault : Int32} {v_stacked : Int32} {v_tape : List Int32} {v_steps : List Int32} {v_draft : List Int32} {v_stack : List Int32} {r : Bool} {N d : Nat} (hd : 2 ≤ d) (hf : fX2_meets N x1 v_size v_place v_fault v_tape = some r) : mm_Ct l yX2_meets cX2_meets 2 (some .boolean) d D (mm_T cI cL cS cH) [.ref (a 0), .int x1] (wd_X2 cI cL cS cH a v_size v_stepCount v_draftCount v_place v_fault v_stacked v_tape v_steps v_draft v_stack) (wd_X2 cI cL cS cH a v_size v_stepCount v_draftCount v_place v_fault v_stacked v_tape v_steps v_draft v_stack) (some (.int (mm_b r))) := by
  refine mm_of (by decide) (Nat.le_of_ble_eq_true rfl) ?_
  intro p e s m args below meth c A H locs ls C0 hP hD hA hS hl
  have C0 : mm_Cx p s m args meth c RX2 cX2_meets 2 (some .boolean) D (mm_T cI cL cS cH) A := C0
  obtain ⟨hx, hb, hml, hown, hts, hr, hlocks, hK, hSt⟩ := id C0
  have hl : lv_has ls 2 [(0, .ref (a 0)), (1, .int x1)] := hl
  unfold fX2_meets at hf
  refine lv_aload_n hx hb dX2_meets_0 rfl (lv_at hl 0 rfl) ?_
  refine mm_get C0 hP iw_X2 0 rfl rfl 7 (by decide) fl_X2_31 rfl dX2_meets_1 ?_
  refine lv_if_ge (tgt := 19) hx hb dX2_meets_4 (by decide) (fun c_1 => ?_) (fun c_1 => ?_)
  · have hf := mm_ip hf c_1
    refine lv_iconst (v := 0) hx hb dX2_meets_19 (by decide) ?_
    obtain rfl := mm_inj1 hf
    exact mm_zret (v := false) C0 hP hD hS dX2_meets_20 (by decide)
  · have hf := mm_in hf c_1
    refine lv_aload_n hx hb dX2_meets_7 rfl (lv_at hl 0 rfl) ?_
    obtain ⟨r_2, hc_3, hf⟩ := mm_bd1s hf
    refine mm_callVF (q0 := 0) (ci := 2) (rest := []) C0 lk_X2_72 (ctX2_next (a := a) (d := d - 1) (by omega) hc_3) (by omega) rfl hl.1 rfl (mm_cat rfl) dX2_meets_8 hP hD hA hS rfl rfl (fun H locs hP hD hS => ?_)
    refine W.eq (g2 := F0 m 11 ls [.int r_2]) rfl ?_
    refine lv_iload_n hx hb dX2_meets_11 rfl (lv_at hl 1 rfl) ?_
    refine lv_icmp_ne (tgt := 19) hx hb dX2_meets_12 (by decide) (fun c_4 => ?_) (fun c_4 => ?_)
    · have hf := mm_in hf c_4
      refine lv_iconst (v := 0) hx hb dX2_meets_19 (by decide) ?_
      obtain rfl := mm_inj1 hf
      exact mm_zret (v := false) C0 hP hD hS dX2_meets_20 (by decide)
    · have hf := mm_ip hf c_4
      refine lv_iconst (v := 1) hx hb dX2_meets_15 (by decide) ?_
      refine lv_goto (tgt := 20) hx hb dX2_meets_16 (by decide) ?_
      obtain rfl := mm_inj1 hf
      exact mm_zret (v := true) C0 hP hD hS dX2_meets_20 (by decide)

theorem nb_dX2_note_0 : bls_w cX2_note [(0, [42]), (1, [180, 0, 34]), (4, [16, 121]), (6, [162, 0, 23]), (9, [42]), (10, [180, 0, 18]), (13, [42]), (14, [180, 0, 34]), (17, [27]), (18, [79]), (19, [42]), (20, [89])] := bls_of (by decide +kernel)
theorem dX2_note_0 : decode cX2_note 0 = .ok (.aload_n 0, 1) := op_42 nb_dX2_note_0.1
set_option maxRecDepth 100000 in
theorem dX2_note_1 : decode cX2_note 1 = .ok (.getfield 34, 3) := (op_180 nb_dX2_note_0.2.1).trans rfl
set_option maxRecDepth 100000 in
theorem dX2_note_4 : decode cX2_note 4 = .ok (.bipush 121, 2) := (op_16 nb_dX2_note_0.2.2.1).trans rfl
set_option maxRecDepth 100000 in
theorem dX2_note_6 : decode cX2_note 6 = .ok (.if_icmp .ge 23, 3) := (op_162 nb_dX2_note_0.2.2.2.1).trans rfl
theorem dX2_note_9 : decode cX2_note 9 = .ok (.aload_n 0, 1) := op_42 nb_dX2_note_0.2.2.2.2.1
set_option maxRecDepth 100000 in
theorem dX2_note_10 : decode cX2_note 10 = .ok (.getfield 18, 3) := (op_180 nb_dX2_note_0.2.2.2.2.2.1).trans rfl
theorem dX2_note_13 : decode cX2_note 13 = .ok (.aload_n 0, 1) := op_42 nb_dX2_note_0.2.2.2.2.2.2.1
set_option maxRecDepth 100000 in
theorem dX2_note_14 : decode cX2_note 14 = .ok (.getfield 34, 3) := (op_180 nb_dX2_note_0.2.2.2.2.2.2.2.1).trans rfl
theorem dX2_note_17 : decode cX2_note 17 = .ok (.iload_n 1, 1) := op_27 nb_dX2_note_0.2.2.2.2.2.2.2.2.1
theorem dX2_note_18 : decode cX2_note 18 = .ok (.iastore, 1) := op_79 nb_dX2_note_0.2.2.2.2.2.2.2.2.2.1
theorem dX2_note_19 : decode cX2_note 19 = .ok (.aload_n 0, 1) := op_42 nb_dX2_note_0.2.2.2.2.2.2.2.2.2.2.1
theorem dX2_note_20 : decode cX2_note 20 = .ok (.dup, 1) := op_89 nb_dX2_note_0.2.2.2.2.2.2.2.2.2.2.2.1
theorem nb_dX2_note_21 : bls_w cX2_note [(21, [180, 0, 34]), (24, [4]), (25, [96]), (26, [181, 0, 34]), (29, [177])] := bls_of (by decide +kernel)
set_option maxRecDepth 100000 in
theorem dX2_note_21 : decode cX2_note 21 = .ok (.getfield 34, 3) := (op_180 nb_dX2_note_21.1).trans rfl
theorem dX2_note_24 : decode cX2_note 24 = .ok (.iconst 1, 1) := op_4 nb_dX2_note_21.2.1
theorem dX2_note_25 : decode cX2_note 25 = .ok (.iadd, 1) := op_96 nb_dX2_note_21.2.2.1
set_option maxRecDepth 100000 in
theorem dX2_note_26 : decode cX2_note 26 = .ok (.putfield 34, 3) := (op_181 nb_dX2_note_21.2.2.2.1).trans rfl
theorem dX2_note_29 : decode cX2_note 29 = .ok (.return_, 1) := op_177 nb_dX2_note_21.2.2.2.2.1
def fX2_note (N : Nat) (x1 : Int32) (v_draftCount : Int32) (v_draft : List Int32) : Option (Int32 × List Int32) :=
    if (121 : Int32) ≤ v_draftCount then
    (some (v_draftCount, v_draft))
    else (mm_ck (mm_inb v_draftCount v_draft.length) (mm_nm (mm_is v_draft v_draftCount x1) (fun (l_3 : List Int32) =>
    mm_nm ((v_draftCount + (1 : Int32))) (fun (y_4 : Int32) =>
    some (y_4, l_3)))))

set_option maxHeartbeats 4000000 in
set_option maxRecDepth 100000 in
theorem ctX2_note {l : Launch} {D : va_G} {cI cL cS cH : ClassId} {a : Nat → Nat} {x1 : Int32} {v_size : Int32} {v_stepCount : Int32} {v_draftCount : Int32} {v_place : Int32} {v_fault : Int32} {v_stacked : Int32} {v_tape : List Int32} {v_steps : List Int32} {v_draft : List Int32} {v_stack : List Int32} {w_draftCount : Int32} {w_draft : List Int32} {N d : Nat} (hd : 1 ≤ d) (hf : fX2_note N x1 v_draftCount v_draft = some (w_draftCount, w_draft)) : mm_Ct l yX2_note cX2_note 2 none d D (mm_T cI cL cS cH) [.ref (a 0), .int x1] (wd_X2 cI cL cS cH a v_size v_stepCount v_draftCount v_place v_fault v_stacked v_tape v_steps v_draft v_stack) (wd_X2 cI cL cS cH a v_size v_stepCount w_draftCount v_place v_fault v_stacked v_tape v_steps w_draft v_stack) none := by
  refine mm_of (by decide) (Nat.le_of_ble_eq_true rfl) ?_
  intro p e s m args below meth c A H locs ls C0 hP hD hA hS hl
  have C0 : mm_Cx p s m args meth c RX2 cX2_note 2 none D (mm_T cI cL cS cH) A := C0
  obtain ⟨hx, hb, hml, hown, hts, hr, hlocks, hK, hSt⟩ := id C0
  have hl : lv_has ls 2 [(0, .ref (a 0)), (1, .int x1)] := hl
  unfold fX2_note at hf
  refine lv_aload_n hx hb dX2_note_0 rfl (lv_at hl 0 rfl) ?_
  refine mm_get C0 hP iw_X2 0 rfl rfl 5 (by decide) fl_X2_34 rfl dX2_note_1 ?_
  refine lv_bipush (v := 121) hx hb dX2_note_4 (by decide) ?_
  refine lv_icmp_ge (tgt := 29) hx hb dX2_note_6 (by decide) (fun c_1 => ?_) (fun c_1 => ?_)
  · have hf := mm_ip hf c_1
    apply mm_sub2 hf
    exact mm_vret C0 hP hD hS dX2_note_29
  · have hf := mm_in hf c_1
    refine lv_aload_n hx hb dX2_note_9 rfl (lv_at hl 0 rfl) ?_
    refine mm_get C0 hP iw_X2 0 rfl rfl 4 (by decide) fl_X2_18 rfl dX2_note_10 ?_
    refine lv_aload_n hx hb dX2_note_13 rfl (lv_at hl 0 rfl) ?_
    refine mm_get C0 hP iw_X2 0 rfl rfl 5 (by decide) fl_X2_34 rfl dX2_note_14 ?_
    refine lv_iload_n hx hb dX2_note_17 rfl (lv_at hl 1 rfl) ?_
    obtain ⟨h_2, hf⟩ := mm_cks hf
    refine mm_iast C0 hP hD hS 3 rfl h_2 dX2_note_18 (w2 := (wd_X2 cI cL cS cH a v_size v_stepCount v_draftCount v_place v_fault v_stacked v_tape v_steps (mm_is v_draft v_draftCount x1) v_stack)) rfl (fun H locs hP hD hS => ?_)
    generalize el_3 : (mm_is v_draft v_draftCount x1) = l_3 at hP hD
    have hf := mm_nms hf el_3.symm
    refine lv_aload_n hx hb dX2_note_19 rfl (lv_at hl 0 rfl) ?_
    refine lv_dup hx hb dX2_note_20 rfl ?_
    refine mm_get C0 hP iw_X2 0 rfl rfl 5 (by decide) fl_X2_34 rfl dX2_note_21 ?_
    refine lv_iconst (v := 1) hx hb dX2_note_24 (by decide) ?_
    refine lv_iadd hx hb dX2_note_25 ?_
    refine lv_topi (fun y_4 ey_4 => ?_)
    have hf := mm_nms hf ey_4
    refine mm_put C0 hP hD hS iw_X2 tyX2 tyX2_ok nmX2 0 rfl rfl 5 (by decide) fl_X2_34 rfl rfl rfl (Nat.le_of_ble_eq_true rfl) dX2_note_26 (w2 := (wd_X2 cI cL cS cH a v_size v_stepCount y_4 v_place v_fault v_stacked v_tape v_steps l_3 v_stack)) rfl (fun H locs hP hD hS => ?_)
    apply mm_sub2 hf
    exact mm_vret C0 hP hD hS dX2_note_29

theorem nb_dX2_isDigit_0 : bls_w cX2_isDigit [(0, [26]), (1, [16, 48]), (3, [161, 0, 13]), (6, [26]), (7, [16, 57]), (9, [163, 0, 7]), (12, [4]), (13, [167, 0, 4]), (16, [3]), (17, [172])] := bls_of (by decide +kernel)
theorem dX2_isDigit_0 : decode cX2_isDigit 0 = .ok (.iload_n 0, 1) := op_26 nb_dX2_isDigit_0.1
set_option maxRecDepth 100000 in
theorem dX2_isDigit_1 : decode cX2_isDigit 1 = .ok (.bipush 48, 2) := (op_16 nb_dX2_isDigit_0.2.1).trans rfl
set_option maxRecDepth 100000 in
theorem dX2_isDigit_3 : decode cX2_isDigit 3 = .ok (.if_icmp .lt 13, 3) := (op_161 nb_dX2_isDigit_0.2.2.1).trans rfl
theorem dX2_isDigit_6 : decode cX2_isDigit 6 = .ok (.iload_n 0, 1) := op_26 nb_dX2_isDigit_0.2.2.2.1
set_option maxRecDepth 100000 in
theorem dX2_isDigit_7 : decode cX2_isDigit 7 = .ok (.bipush 57, 2) := (op_16 nb_dX2_isDigit_0.2.2.2.2.1).trans rfl
set_option maxRecDepth 100000 in
theorem dX2_isDigit_9 : decode cX2_isDigit 9 = .ok (.if_icmp .gt 7, 3) := (op_163 nb_dX2_isDigit_0.2.2.2.2.2.1).trans rfl
theorem dX2_isDigit_12 : decode cX2_isDigit 12 = .ok (.iconst 1, 1) := op_4 nb_dX2_isDigit_0.2.2.2.2.2.2.1
set_option maxRecDepth 100000 in
theorem dX2_isDigit_13 : decode cX2_isDigit 13 = .ok (.goto 4, 3) := (op_167 nb_dX2_isDigit_0.2.2.2.2.2.2.2.1).trans rfl
theorem dX2_isDigit_16 : decode cX2_isDigit 16 = .ok (.iconst 0, 1) := op_3 nb_dX2_isDigit_0.2.2.2.2.2.2.2.2.1
theorem dX2_isDigit_17 : decode cX2_isDigit 17 = .ok (.ireturn, 1) := op_172 nb_dX2_isDigit_0.2.2.2.2.2.2.2.2.2.1
def fX2_isDigit (N : Nat) (x0 : Int32) : Option (Bool) :=
    if x0 < (48 : Int32) then
    (some (false))
    else (if (57 : Int32) < x0 then
    (some (false))
    else (some (true)))

set_option maxHeartbeats 4000000 in
set_option maxRecDepth 100000 in
theorem ctX2_isDigit {l : Launch} {D : va_G} {cI cL cS cH : ClassId} {x0 : Int32}  {r : Bool} {N d : Nat} (hd : 1 ≤ d) (hf : fX2_isDigit N x0 = some r) : mm_Ct l yX2_isDigit cX2_isDigit 1 (some .boolean) d D (mm_T cI cL cS cH) [.int x0] ([] : va_W) ([] : va_W) (some (.int (mm_b r))) := by
  refine mm_of (by decide) (Nat.le_of_ble_eq_true rfl) ?_
  intro p e s m args below meth c A H locs ls C0 hP hD hA hS hl
  have C0 : mm_Cx p s m args meth c RX2 cX2_isDigit 1 (some .boolean) D (mm_T cI cL cS cH) A := C0
  obtain ⟨hx, hb, hml, hown, hts, hr, hlocks, hK, hSt⟩ := id C0
  have hl : lv_has ls 1 [(0, .int x0)] := hl
  unfold fX2_isDigit at hf
  refine lv_iload_n hx hb dX2_isDigit_0 rfl (lv_at hl 0 rfl) ?_
  refine lv_bipush (v := 48) hx hb dX2_isDigit_1 (by decide) ?_
  refine lv_icmp_lt (tgt := 16) hx hb dX2_isDigit_3 (by decide) (fun c_1 => ?_) (fun c_1 => ?_)
  · have hf := mm_ip hf c_1
    refine lv_iconst (v := 0) hx hb dX2_isDigit_16 (by decide) ?_
    obtain rfl := mm_inj1 hf
    exact mm_zret (v := false) C0 hP hD hS dX2_isDigit_17 (by decide)
  · have hf := mm_in hf c_1
    refine lv_iload_n hx hb dX2_isDigit_6 rfl (lv_at hl 0 rfl) ?_
    refine lv_bipush (v := 57) hx hb dX2_isDigit_7 (by decide) ?_
    refine lv_icmp_gt (tgt := 16) hx hb dX2_isDigit_9 (by decide) (fun c_2 => ?_) (fun c_2 => ?_)
    · have hf := mm_ip hf c_2
      refine lv_iconst (v := 0) hx hb dX2_isDigit_16 (by decide) ?_
      obtain rfl := mm_inj1 hf
      exact mm_zret (v := false) C0 hP hD hS dX2_isDigit_17 (by decide)
    · have hf := mm_in hf c_2
      refine lv_iconst (v := 1) hx hb dX2_isDigit_12 (by decide) ?_
      refine lv_goto (tgt := 17) hx hb dX2_isDigit_13 (by decide) ?_
      obtain rfl := mm_inj1 hf
      exact mm_zret (v := true) C0 hP hD hS dX2_isDigit_17 (by decide)

