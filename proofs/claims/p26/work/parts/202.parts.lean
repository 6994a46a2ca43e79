section
/-! parts: X2_readNumber, X2_isName, X2_readProduct, X2_readSum, X2_readCompared, X2_readBoth, X2_readEither, X2_readOne, X2_readLine -/
theorem nb_dX2_readNumber_0 : bls_w cX2_readNumber [(0, [3]), (1, [60]), (2, [3]), (3, [61]), (4, [28]), (5, [7]), (6, [162, 0, 42]), (9, [42]), (10, [182, 0, 72]), (13, [184, 0, 82]), (16, [153, 0, 32]), (19, [27])] := bls_of (by decide +kernel)
theorem dX2_readNumber_0 : decode cX2_readNumber 0 = .ok (.iconst 0, 1) := op_3 nb_dX2_readNumber_0.1
theorem dX2_readNumber_1 : decode cX2_readNumber 1 = .ok (.istore_n 1, 1) := op_60 nb_dX2_readNumber_0.2.1
theorem dX2_readNumber_2 : decode cX2_readNumber 2 = .ok (.iconst 0, 1) := op_3 nb_dX2_readNumber_0.2.2.1
theorem dX2_readNumber_3 : decode cX2_readNumber 3 = .ok (.istore_n 2, 1) := op_61 nb_dX2_readNumber_0.2.2.2.1
theorem dX2_readNumber_4 : decode cX2_readNumber 4 = .ok (.iload_n 2, 1) := op_28 nb_dX2_readNumber_0.2.2.2.2.1
theorem dX2_readNumber_5 : decode cX2_readNumber 5 = .ok (.iconst 4, 1) := op_7 nb_dX2_readNumber_0.2.2.2.2.2.1
set_option maxRecDepth 100000 in
theorem dX2_readNumber_6 : decode cX2_readNumber 6 = .ok (.if_icmp .ge 42, 3) := (op_162 nb_dX2_readNumber_0.2.2.2.2.2.2.1).trans rfl
theorem dX2_readNumber_9 : decode cX2_readNumber 9 = .ok (.aload_n 0, 1) := op_42 nb_dX2_readNumber_0.2.2.2.2.2.2.2.1
set_option maxRecDepth 100000 in
theorem dX2_readNumber_10 : decode cX2_readNumber 10 = .ok (.invokevirtual 72, 3) := (op_182 nb_dX2_readNumber_0.2.2.2.2.2.2.2.2.1).trans rfl
set_option maxRecDepth 100000 in
theorem dX2_readNumber_13 : decode cX2_readNumber 13 = .ok (.invokestatic 82, 3) := (op_184 nb_dX2_readNumber_0.2.2.2.2.2.2.2.2.2.1).trans rfl
set_option maxRecDepth 100000 in
theorem dX2_readNumber_16 : decode cX2_readNumber 16 = .ok (.ifCond .eq 32, 3) := (op_153 nb_dX2_readNumber_0.2.2.2.2.2.2.2.2.2.2.1).trans rfl
theorem dX2_readNumber_19 : decode cX2_readNumber 19 = .ok (.iload_n 1, 1) := op_27 nb_dX2_readNumber_0.2.2.2.2.2.2.2.2.2.2.2.1
theorem nb_dX2_readNumber_20 : bls_w cX2_readNumber [(20, [16, 10]), (22, [104]), (23, [42]), (24, [182, 0, 72]), (27, [96]), (28, [16, 48]), (30, [100]), (31, [60]), (32, [42]), (33, [89]), (34, [180, 0, 28]), (37, [4])] := bls_of (by decide +kernel)
set_option maxRecDepth 100000 in
theorem dX2_readNumber_20 : decode cX2_readNumber 20 = .ok (.bipush 10, 2) := (op_16 nb_dX2_readNumber_20.1).trans rfl
theorem dX2_readNumber_22 : decode cX2_readNumber 22 = .ok (.imul, 1) := op_104 nb_dX2_readNumber_20.2.1
theorem dX2_readNumber_23 : decode cX2_readNumber 23 = .ok (.aload_n 0, 1) := op_42 nb_dX2_readNumber_20.2.2.1
set_option maxRecDepth 100000 in
theorem dX2_readNumber_24 : decode cX2_readNumber 24 = .ok (.invokevirtual 72, 3) := (op_182 nb_dX2_readNumber_20.2.2.2.1).trans rfl
theorem dX2_readNumber_27 : decode cX2_readNumber 27 = .ok (.iadd, 1) := op_96 nb_dX2_readNumber_20.2.2.2.2.1
set_option maxRecDepth 100000 in
theorem dX2_readNumber_28 : decode cX2_readNumber 28 = .ok (.bipush 48, 2) := (op_16 nb_dX2_readNumber_20.2.2.2.2.2.1).trans rfl
theorem dX2_readNumber_30 : decode cX2_readNumber 30 = .ok (.isub, 1) := op_100 nb_dX2_readNumber_20.2.2.2.2.2.2.1
theorem dX2_readNumber_31 : decode cX2_readNumber 31 = .ok (.istore_n 1, 1) := op_60 nb_dX2_readNumber_20.2.2.2.2.2.2.2.1
theorem dX2_readNumber_32 : decode cX2_readNumber 32 = .ok (.aload_n 0, 1) := op_42 nb_dX2_readNumber_20.2.2.2.2.2.2.2.2.1
theorem dX2_readNumber_33 : decode cX2_readNumber 33 = .ok (.dup, 1) := op_89 nb_dX2_readNumber_20.2.2.2.2.2.2.2.2.2.1
set_option maxRecDepth 100000 in
theorem dX2_readNumber_34 : decode cX2_readNumber 34 = .ok (.getfield 28, 3) := (op_180 nb_dX2_readNumber_20.2.2.2.2.2.2.2.2.2.2.1).trans rfl
theorem dX2_readNumber_37 : decode cX2_readNumber 37 = .ok (.iconst 1, 1) := op_4 nb_dX2_readNumber_20.2.2.2.2.2.2.2.2.2.2.2.1
theorem nb_dX2_readNumber_38 : bls_w cX2_readNumber [(38, [96]), (39, [181, 0, 28]), (42, [132, 2, 1]), (45, [167, 255, 215]), (48, [42]), (49, [17, 3, 232]), (52, [27]), (53, [96]), (54, [182, 0, 60]), (57, [177])] := bls_of (by decide +kernel)
theorem dX2_readNumber_38 : decode cX2_readNumber 38 = .ok (.iadd, 1) := op_96 nb_dX2_readNumber_38.1
set_option maxRecDepth 100000 in
theorem dX2_readNumber_39 : decode cX2_readNumber 39 = .ok (.putfield 28, 3) := (op_181 nb_dX2_readNumber_38.2.1).trans rfl
set_option maxRecDepth 100000 in
theorem dX2_readNumber_42 : decode cX2_readNumber 42 = .ok (.iinc 2 1, 3) := (op_132 nb_dX2_readNumber_38.2.2.1).trans rfl
set_option maxRecDepth 100000 in
theorem dX2_readNumber_45 : decode cX2_readNumber 45 = .ok (.goto (-41), 3) := (op_167 nb_dX2_readNumber_38.2.2.2.1).trans rfl
theorem dX2_readNumber_48 : decode cX2_readNumber 48 = .ok (.aload_n 0, 1) := op_42 nb_dX2_readNumber_38.2.2.2.2.1
set_option maxRecDepth 100000 in
theorem dX2_readNumber_49 : decode cX2_readNumber 49 = .ok (.sipush 1000, 3) := (op_17 nb_dX2_readNumber_38.2.2.2.2.2.1).trans rfl
theorem dX2_readNumber_52 : decode cX2_readNumber 52 = .ok (.iload_n 1, 1) := op_27 nb_dX2_readNumber_38.2.2.2.2.2.2.1
theorem dX2_readNumber_53 : decode cX2_readNumber 53 = .ok (.iadd, 1) := op_96 nb_dX2_readNumber_38.2.2.2.2.2.2.2.1
set_option maxRecDepth 100000 in
theorem dX2_readNumber_54 : decode cX2_readNumber 54 = .ok (.invokevirtual 60, 3) := (op_182 nb_dX2_readNumber_38.2.2.2.2.2.2.2.2.1).trans rfl
theorem dX2_readNumber_57 : decode cX2_readNumber 57 = .ok (.return_, 1) := op_177 nb_dX2_readNumber_38.2.2.2.2.2.2.2.2.2.1
def fX2_readNumber_48 (N : Nat)  (x1 : Int32) (v_size : Int32) (v_draftCount : Int32) (v_place : Int32) (v_tape : List Int32) (v_draft : List Int32) : Option (Int32 × Int32 × List Int32) :=
    mm_bd2 (fX2_note N ((1000 : Int32) + x1) v_draftCount v_draft) (fun (w_12 : Int32) (w_13 : List Int32) =>
    some (w_12, v_place, w_13))

set_option maxHeartbeats 4000000 in
set_option maxRecDepth 100000 in
theorem tX2_readNumber_48 {p : Program} {l : Launch} {e : Env} {s : State} {m : MethodId} {args : Array Value} {below : List Frame} {meth : Method} {c : Code} {D : va_G} {cI cL cS cH : ClassId} {A : Nat → Prop} {d : Nat} {a : Nat → Nat} (hd : 2 ≤ d) (C0 : mm_Cx p s m args meth c RX2 cX2_readNumber 3 none D (mm_T cI cL cS cH) A) (hA : ∀ q, s.heap.size ≤ q → A q) {v_stepCount : Int32} {v_fault : Int32} {v_stacked : Int32} {v_steps : List Int32} {v_stack : List Int32} {w_draftCount : Int32} {w_place : Int32} {w_draft : List Int32} (N : Nat)  : ∀ (x1 : Int32) (v_size : Int32) (v_draftCount : Int32) (v_place : Int32) (v_tape : List Int32) (v_draft : List Int32) (H : Heap) (locs : List Loc) (ls : Array Slot), fX2_readNumber_48 N x1 v_size v_draftCount v_place v_tape v_draft = some (w_draftCount, w_place, w_draft) → va_P D mm_cl (wd_X2 cI cL cS cH a v_size v_stepCount v_draftCount v_place v_fault v_stacked v_tape v_steps v_draft v_stack) H → va_D A (wd_X2 cI cL cS cH a v_size v_stepCount v_draftCount v_place v_fault v_stacked v_tape v_steps v_draft v_stack) → va_S A s.heap H locs → lv_has ls 3 [(0, .ref (a 0)), (1, .int x1)] → W p l e (mm_rr d) s m args below meth c H locs 0 0 (mm_Z below D A (wd_X2 cI cL cS cH a v_size v_stepCount w_draftCount w_place v_fault v_stacked v_tape v_steps w_draft v_stack) none args s) (F0 m 48 ls []) := by
  obtain ⟨hx, hb, hml, hown, hts, hr, hlocks, hK, hSt⟩ := id C0
  intro x1 v_size v_draftCount v_place v_tape v_draft H locs ls hf hP hD hS hl
  unfold fX2_readNumber_48 at hf
  refine lv_aload_n hx hb dX2_readNumber_48 rfl (lv_at hl 0 rfl) ?_
  refine lv_sipush (v := 1000) hx hb dX2_readNumber_49 (by decide) ?_
  refine lv_iload_n hx hb dX2_readNumber_52 rfl (lv_at hl 1 rfl) ?_
  refine lv_iadd hx hb dX2_readNumber_53 ?_
  obtain ⟨w_12, w_13, hc_14, hf⟩ := mm_bd2s hf
  refine mm_callVF (q0 := 0) (ci := 2) (rest := []) C0 lk_X2_60 (ctX2_note (a := a) (d := d - 1) (by omega) hc_14) (by omega) rfl hl.1 rfl (mm_cat rfl) dX2_readNumber_54 hP hD hA hS rfl rfl (fun H locs hP hD hS => ?_)
  refine W.eq (g2 := F0 m 57 ls []) rfl ?_
  apply mm_sub3 hf
  exact mm_vret C0 hP hD hS dX2_readNumber_57

def fX2_readNumber_4 (N : Nat)  : Nat → Int32 → Int32 → Int32 → Int32 → Int32 → List Int32 → List Int32 → Option (Int32 × Int32 × List Int32)
  | 0 => fun _ _ _ _ _ _ _ => none
  | n + 1 => fun x1 x2 v_size v_draftCount v_place v_tape v_draft =>
    if (4 : Int32) ≤ x2 then
    (fX2_readNumber_48 N x1 v_size v_draftCount v_place v_tape v_draft)
    else (mm_bd1 (fX2_next N v_size v_place v_tape) (fun (r_2 : Int32) =>
    mm_bd1 (fX2_isDigit N r_2) (fun (r_4 : Bool) =>
    if r_4 = false then
    (fX2_readNumber_48 N x1 v_size v_draftCount v_place v_tape v_draft)
    else (mm_bd1 (fX2_next N v_size v_place v_tape) (fun (r_7 : Int32) =>
    mm_nm ((((x1 * (10 : Int32)) + r_7) - (48 : Int32))) (fun (y_9 : Int32) =>
    mm_nm ((v_place + (1 : Int32))) (fun (y_10 : Int32) =>
    mm_nm (x2 + (1 : Int32)) (fun (y_11 : Int32) =>
    fX2_readNumber_4 N n y_9 y_11 v_size v_draftCount y_10 v_tape v_draft))))))))

set_option maxHeartbeats 4000000 in
set_option maxRecDepth 100000 in
theorem tX2_readNumber_4 {p : Program} {l : Launch} {e : Env} {s : State} {m : MethodId} {args : Array Value} {below : List Frame} {meth : Method} {c : Code} {D : va_G} {cI cL cS cH : ClassId} {A : Nat → Prop} {d : Nat} {a : Nat → Nat} (hd : 2 ≤ d) (C0 : mm_Cx p s m args meth c RX2 cX2_readNumber 3 none D (mm_T cI cL cS cH) A) (hA : ∀ q, s.heap.size ≤ q → A q) {v_stepCount : Int32} {v_fault : Int32} {v_stacked : Int32} {v_steps : List Int32} {v_stack : List Int32} {w_draftCount : Int32} {w_place : Int32} {w_draft : List Int32} (N : Nat)  : ∀ (n : Nat), ∀ (x1 : Int32) (x2 : Int32) (v_size : Int32) (v_draftCount : Int32) (v_place : Int32) (v_tape : List Int32) (v_draft : List Int32) (H : Heap) (locs : List Loc) (ls : Array Slot), fX2_readNumber_4 N n x1 x2 v_size v_draftCount v_place v_tape v_draft = some (w_draftCount, w_place, w_draft) → va_P D mm_cl (wd_X2 cI cL cS cH a v_size v_stepCount v_draftCount v_place v_fault v_stacked v_tape v_steps v_draft v_stack) H → va_D A (wd_X2 cI cL cS cH a v_size v_stepCount v_draftCount v_place v_fault v_stacked v_tape v_steps v_draft v_stack) → va_S A s.heap H locs → lv_has ls 3 [(0, .ref (a 0)), (1, .int x1), (2, .int x2)] → W p l e (mm_rr d) s m args below meth c H locs 0 0 (mm_Z below D A (wd_X2 cI cL cS cH a v_size v_stepCount w_draftCount w_place v_fault v_stacked v_tape v_steps w_draft v_stack) none args s) (F0 m 4 ls []) := by
  obtain ⟨hx, hb, hml, hown, hts, hr, hlocks, hK, hSt⟩ := id C0
  intro n
  induction n with
  | zero =>
    intro x1 x2 v_size v_draftCount v_place v_tape v_draft H locs ls hf
    cases (show none = some _ from hf)
  | succ n ih =>
    intro x1 x2 v_size v_draftCount v_place v_tape v_draft H locs ls hf hP hD hS hl
    unfold fX2_readNumber_4 at hf
    refine lv_iload_n hx hb dX2_readNumber_4 rfl (lv_at hl 2 rfl) ?_
    refine lv_iconst (v := 4) hx hb dX2_readNumber_5 (by decide) ?_
    refine lv_icmp_ge (tgt := 48) hx hb dX2_readNumber_6 (by decide) (fun c_1 => ?_) (fun c_1 => ?_)
    · have hf := mm_ip hf c_1
      exact tX2_readNumber_48 hd C0 hA N  _ _ _ _ _ _ H locs ls hf hP hD hS (lv_sub hl [0, 1] rfl)
    · have hf := mm_in hf c_1
      refine lv_aload_n hx hb dX2_readNumber_9 rfl (lv_at hl 0 rfl) ?_
      obtain ⟨r_2, hc_3, hf⟩ := mm_bd1s hf
      refine mm_callVF (q0 := 0) (ci := 2) (rest := []) C0 lk_X2_72 (ctX2_next (a := a) (d := d - 1) (by omega) hc_3) (by omega) rfl hl.1 rfl (mm_cat rfl) dX2_readNumber_10 hP hD hA hS rfl rfl (fun H locs hP hD hS => ?_)
      refine W.eq (g2 := F0 m 13 ls [.int r_2]) rfl ?_
      obtain ⟨r_4, hc_5, hf⟩ := mm_bd1s hf
      refine mm_callS0 (rest := []) C0 lk_X2_82 (ctX2_isDigit (d := d - 1) (by omega) hc_5) (by omega) rfl hl.1 rfl (mm_cat rfl) dX2_readNumber_13 hP hD hA hS (fun H locs hP hS => ?_)
      refine W.eq (g2 := F0 m 16 ls [.int (mm_b r_4)]) rfl ?_
      refine lv_if_eq (tgt := 48) hx hb dX2_readNumber_16 (by decide) (fun c_6 => ?_) (fun c_6 => ?_)
      · have hf := mm_ip hf (mm_b0 c_6)
        exact tX2_readNumber_48 hd C0 hA N  _ _ _ _ _ _ H locs ls hf hP hD hS (lv_sub hl [0, 1] rfl)
      · have hf := mm_in hf (mm_b1 c_6)
        refine lv_iload_n hx hb dX2_readNumber_19 rfl (lv_at hl 1 rfl) ?_
        refine lv_bipush (v := 10) hx hb dX2_readNumber_20 (by decide) ?_
        refine lv_imul hx hb dX2_readNumber_22 ?_
        refine lv_aload_n hx hb dX2_readNumber_23 rfl (lv_at hl 0 rfl) ?_
        obtain ⟨r_7, hc_8, hf⟩ := mm_bd1s hf
        refine mm_callVF (q0 := 0) (ci := 2) (rest := [.int (x1 * (10 : Int32))]) C0 lk_X2_72 (ctX2_next (a := a) (d := d - 1) (by omega) hc_8) (by omega) rfl hl.1 rfl (mm_cat rfl) dX2_readNumber_24 hP hD hA hS rfl rfl (fun H locs hP hD hS => ?_)
        refine W.eq (g2 := F0 m 27 ls [.int r_7, .int (x1 * (10 : Int32))]) rfl ?_
        refine lv_iadd hx hb dX2_readNumber_27 ?_
        refine lv_bipush (v := 48) hx hb dX2_readNumber_28 (by decide) ?_
        refine lv_isub hx hb dX2_readNumber_30 ?_
        refine lv_topi (fun y_9 ey_9 => ?_)
        have hf := mm_nms hf ey_9
        refine lv_istore_n (lv' := [(1, .int y_9), (0, .ref (a 0)), (2, .int x2)]) hx hb dX2_readNumber_31 rfl hl (by decide) rfl (fun ls hl => ?_)
        refine lv_aload_n hx hb dX2_readNumber_32 rfl (lv_at hl 1 rfl) ?_
        refine lv_dup hx hb dX2_readNumber_33 rfl ?_
        refine mm_get C0 hP iw_X2 0 rfl rfl 6 (by decide) fl_X2_28 rfl dX2_readNumber_34 ?_
        refine lv_iconst (v := 1) hx hb dX2_readNumber_37 (by decide) ?_
        refine lv_iadd hx hb dX2_readNumber_38 ?_
        refine lv_topi (fun y_10 ey_10 => ?_)
        have hf := mm_nms hf ey_10
        refine mm_put C0 hP hD hS iw_X2 tyX2 tyX2_ok nmX2 0 rfl rfl 6 (by decide) fl_X2_28 rfl rfl rfl (Nat.le_of_ble_eq_true rfl) dX2_readNumber_39 (w2 := (wd_X2 cI cL cS cH a v_size v_stepCount v_draftCount y_10 v_fault v_stacked v_tape v_steps v_draft v_stack)) rfl (fun H locs hP hD hS => ?_)
        obtain ⟨y_11, ey_11⟩ : ∃ z : Int32, z = x2 + (1 : Int32) := ⟨_, rfl⟩
        have hf := mm_nms hf ey_11
        refine lv_iinc (v := y_11) (lv' := [(2, .int y_11), (1, .int y_9), (0, .ref (a 0))]) hx hb dX2_readNumber_42 hl (k := 2) rfl (by rw [ey_11]; rfl) (by decide) rfl (fun ls hl => ?_)
        refine lv_goto (tgt := 4) hx hb dX2_readNumber_45 (by decide) ?_
        exact ih _ _ _ _ _ _ _ H locs ls hf hP hD hS (lv_sub hl [2, 1, 0] rfl)

def fX2_readNumber (N : Nat) (v_size : Int32) (v_draftCount : Int32) (v_place : Int32) (v_tape : List Int32) (v_draft : List Int32) : Option (Int32 × Int32 × List Int32) :=
    fX2_readNumber_4 N N (0 : Int32) (0 : Int32) v_size v_draftCount v_place v_tape v_draft

set_option maxHeartbeats 4000000 in
set_option maxRecDepth 100000 in
theorem ctX2_readNumber {l : Launch} {D : va_G} {cI cL cS cH : ClassId} {a : Nat → Nat}  {v_size : Int32} {v_stepCount : Int32} {v_draftCount : Int32} {v_place : Int32} {v_fault : Int32} {v_stacked : Int32} {v_tape : List Int32} {v_steps : List Int32} {v_draft : List Int32} {v_stack : List Int32} {w_draftCount : Int32} {w_place : Int32} {w_draft : List Int32} {N d : Nat} (hd : 2 ≤ d) (hf : fX2_readNumber N v_size v_draftCount v_place v_tape v_draft = some (w_draftCount, w_place, w_draft)) : mm_Ct l yX2_readNumber cX2_readNumber 3 none d D (mm_T cI cL cS cH) [.ref (a 0)] (wd_X2 cI cL cS cH a v_size v_stepCount v_draftCount v_place v_fault v_stacked v_tape v_steps v_draft v_stack) (wd_X2 cI cL cS cH a v_size v_stepCount w_draftCount w_place v_fault v_stacked v_tape v_steps w_draft v_stack) none := by
  refine mm_of (by decide) (Nat.le_of_ble_eq_true rfl) ?_
  intro p e s m args below meth c A H locs ls C0 hP hD hA hS hl
  have C0 : mm_Cx p s m args meth c RX2 cX2_readNumber 3 none D (mm_T cI cL cS cH) A := C0
  obtain ⟨hx, hb, hml, hown, hts, hr, hlocks, hK, hSt⟩ := id C0
  have hl : lv_has ls 3 [(0, .ref (a 0))] := hl
  unfold fX2_readNumber at hf
  refine lv_iconst (v := 0) hx hb dX2_readNumber_0 (by decide) ?_
  refine lv_istore_n (lv' := [(1, .int (0 : Int32)), (0, .ref (a 0))]) hx hb dX2_readNumber_1 rfl hl (by decide) rfl (fun ls hl => ?_)
  refine lv_iconst (v := 0) hx hb dX2_readNumber_2 (by decide) ?_
  refine lv_istore_n (lv' := [(2, .int (0 : Int32)), (1, .int (0 : Int32)), (0, .ref (a 0))]) hx hb dX2_readNumber_3 rfl hl (by decide) rfl (fun ls hl => ?_)
  exact tX2_readNumber_4 hd C0 hA N  N _ _ _ _ _ _ _ H locs ls hf hP hD hS (lv_sub hl [2, 1, 0] rfl)

theorem dX2_isName_1 : decode cX2_isName 1 = .ok (.lookupswitch 61 #[(98, 59), (102, 59), (107, 59), (110, 59), (114, 59), (119, 59)], 59) := by decide +kernel
theorem nb_dX2_isName_0 : bls_w cX2_isName [(0, [26]), (60, [4]), (61, [172]), (62, [3]), (63, [172])] := bls_of (by decide +kernel)
theorem dX2_isName_0 : decode cX2_isName 0 = .ok (.iload_n 0, 1) := op_26 nb_dX2_isName_0.1
theorem dX2_isName_60 : decode cX2_isName 60 = .ok (.iconst 1, 1) := op_4 nb_dX2_isName_0.2.1
theorem dX2_isName_61 : decode cX2_isName 61 = .ok (.ireturn, 1) := op_172 nb_dX2_isName_0.2.2.1
theorem dX2_isName_62 : decode cX2_isName 62 = .ok (.iconst 0, 1) := op_3 nb_dX2_isName_0.2.2.2.1
theorem dX2_isName_63 : decode cX2_isName 63 = .ok (.ireturn, 1) := op_172 nb_dX2_isName_0.2.2.2.2.1
def fX2_isName (N : Nat) (x0 : Int32) : Option (Bool) :=
    if x0 = (98 : Int32) then
    (some (true))
    else (if x0 = (102 : Int32) then
    (some (true))
    else (if x0 = (107 : Int32) then
    (some (true))
    else (if x0 = (110 : Int32) then
    (some (true))
    else (if x0 = (114 : Int32) then
    (some (true))
    else (if x0 = (119 : Int32) then
    (some (true))
    else (some (false)))))))

set_option maxHeartbeats 4000000 in
set_option maxRecDepth 100000 in
theorem ctX2_isName {l : Launch} {D : va_G} {cI cL cS cH : ClassId} {x0 : Int32}  {r : Bool} {N d : Nat} (hd : 1 ≤ d) (hf : fX2_isName N x0 = some r) : mm_Ct l yX2_isName cX2_isName 1 (some .boolean) d D (mm_T cI cL cS cH) [.int x0] ([] : va_W) ([] : va_W) (some (.int (mm_b r))) := by
  refine mm_of (by decide) (Nat.le_of_ble_eq_true rfl) ?_
  intro p e s m args below meth c A H locs ls C0 hP hD hA hS hl
  have C0 : mm_Cx p s m args meth c RX2 cX2_isName 1 (some .boolean) D (mm_T cI cL cS cH) A := C0
  obtain ⟨hx, hb, hml, hown, hts, hr, hlocks, hK, hSt⟩ := id C0
  have hl : lv_has ls 1 [(0, .int x0)] := hl
  unfold fX2_isName at hf
  refine lv_iload_n hx hb dX2_isName_0 rfl (lv_at hl 0 rfl) ?_
  by_cases c_1 : x0 = (98 : Int32)
  · have hf := mm_ip hf c_1
    refine lv_lookup (off := 59) (tgt := 60) hx hb dX2_isName_1 (by decide) (by rw [c_1]; first | done | rfl | decide) (by decide) ?_
    refine lv_iconst (v := 1) hx hb dX2_isName_60 (by decide) ?_
    obtain rfl := mm_inj1 hf
    exact mm_zret (v := true) C0 hP hD hS dX2_isName_61 (by decide)
  · have hf := mm_in hf c_1
    by_cases c_2 : x0 = (102 : Int32)
    · have hf := mm_ip hf c_2
      refine lv_lookup (off := 59) (tgt := 60) hx hb dX2_isName_1 (by decide) (by rw [c_2]; first | done | rfl | decide) (by decide) ?_
      refine lv_iconst (v := 1) hx hb dX2_isName_60 (by decide) ?_
      obtain rfl := mm_inj1 hf
      exact mm_zret (v := true) C0 hP hD hS dX2_isName_61 (by decide)
    · have hf := mm_in hf c_2
      by_cases c_3 : x0 = (107 : Int32)
      · have hf := mm_ip hf c_3
        refine lv_lookup (off := 59) (tgt := 60) hx hb dX2_isName_1 (by decide) (by rw [c_3]; first | done | rfl | decide) (by decide) ?_
        refine lv_iconst (v := 1) hx hb dX2_isName_60 (by decide) ?_
        obtain rfl := mm_inj1 hf
        exact mm_zret (v := true) C0 hP hD hS dX2_isName_61 (by decide)
      · have hf := mm_in hf c_3
        by_cases c_4 : x0 = (110 : Int32)
        · have hf := mm_ip hf c_4
          refine lv_lookup (off := 59) (tgt := 60) hx hb dX2_isName_1 (by decide) (by rw [c_4]; first | done | rfl | decide) (by decide) ?_
          refine lv_iconst (v := 1) hx hb dX2_isName_60 (by decide) ?_
          obtain rfl := mm_inj1 hf
          exact mm_zret (v := true) C0 hP hD hS dX2_isName_61 (by decide)
        · have hf := mm_in hf c_4
          by_cases c_5 : x0 = (114 : Int32)
          · have hf := mm_ip hf c_5
            refine lv_lookup (off := 59) (tgt := 60) hx hb dX2_isName_1 (by decide) (by rw [c_5]; first | done | rfl | decide) (by decide) ?_
            refine lv_iconst (v := 1) hx hb dX2_isName_60 (by decide) ?_
            obtain rfl := mm_inj1 hf
            exact mm_zret (v := true) C0 hP hD hS dX2_isName_61 (by decide)
          · have hf := mm_in hf c_5
            by_cases c_6 : x0 = (119 : Int32)
            · have hf := mm_ip hf c_6
              refine lv_lookup (off := 59) (tgt := 60) hx hb dX2_isName_1 (by decide) (by rw [c_6]; first | done | rfl | decide) (by decide) ?_
              refine lv_iconst (v := 1) hx hb dX2_isName_60 (by decide) ?_
              obtain rfl := mm_inj1 hf
              exact mm_zret (v := true) C0 hP hD hS dX2_isName_61 (by decide)
            · have hf := mm_in hf c_6
              refine lv_lookup (off := 61) (tgt := 62) hx hb dX2_isName_1 (by decide) ((lv_osw c_1 (by decide)).trans ((lv_osw c_2 (by decide)).trans ((lv_osw c_3 (by decide)).trans ((lv_osw c_4 (by decide)).trans ((lv_osw c_5 (by decide)).trans ((lv_osw c_6 (by decide)).trans (rfl))))))) (by decide) ?_
              refine lv_iconst (v := 0) hx hb dX2_isName_62 (by decide) ?_
              obtain rfl := mm_inj1 hf
              exact mm_zret (v := false) C0 hP hD hS dX2_isName_63 (by decide)

theorem nb_dX2_readProduct_0 : bls_w cX2_readProduct [(0, [42]), (1, [27]), (2, [182, 0, 79]), (5, [3]), (6, [61]), (7, [28]), (8, [16, 120]), (10, [162, 0, 61]), (13, [42]), (14, [16, 42]), (16, [182, 0, 40]), (19, [154, 0, 21])] := bls_of (by decide +kernel)
theorem dX2_readProduct_0 : decode cX2_readProduct 0 = .ok (.aload_n 0, 1) := op_42 nb_dX2_readProduct_0.1
theorem dX2_readProduct_1 : decode cX2_readProduct 1 = .ok (.iload_n 1, 1) := op_27 nb_dX2_readProduct_0.2.1
set_option maxRecDepth 100000 in
theorem dX2_readProduct_2 : decode cX2_readProduct 2 = .ok (.invokevirtual 79, 3) := (op_182 nb_dX2_readProduct_0.2.2.1).trans rfl
theorem dX2_readProduct_5 : decode cX2_readProduct 5 = .ok (.iconst 0, 1) := op_3 nb_dX2_readProduct_0.2.2.2.1
theorem dX2_readProduct_6 : decode cX2_readProduct 6 = .ok (.istore_n 2, 1) := op_61 nb_dX2_readProduct_0.2.2.2.2.1
theorem dX2_readProduct_7 : decode cX2_readProduct 7 = .ok (.iload_n 2, 1) := op_28 nb_dX2_readProduct_0.2.2.2.2.2.1
set_option maxRecDepth 100000 in
theorem dX2_readProduct_8 : decode cX2_readProduct 8 = .ok (.bipush 120, 2) := (op_16 nb_dX2_readProduct_0.2.2.2.2.2.2.1).trans rfl
set_option maxRecDepth 100000 in
theorem dX2_readProduct_10 : decode cX2_readProduct 10 = .ok (.if_icmp .ge 61, 3) := (op_162 nb_dX2_readProduct_0.2.2.2.2.2.2.2.1).trans rfl
theorem dX2_readProduct_13 : decode cX2_readProduct 13 = .ok (.aload_n 0, 1) := op_42 nb_dX2_readProduct_0.2.2.2.2.2.2.2.2.1
set_option maxRecDepth 100000 in
theorem dX2_readProduct_14 : decode cX2_readProduct 14 = .ok (.bipush 42, 2) := (op_16 nb_dX2_readProduct_0.2.2.2.2.2.2.2.2.2.1).trans rfl
set_option maxRecDepth 100000 in
theorem dX2_readProduct_16 : decode cX2_readProduct 16 = .ok (.invokevirtual 40, 3) := (op_182 nb_dX2_readProduct_0.2.2.2.2.2.2.2.2.2.2.1).trans rfl
set_option maxRecDepth 100000 in
theorem dX2_readProduct_19 : decode cX2_readProduct 19 = .ok (.ifCond .ne 21, 3) := (op_154 nb_dX2_readProduct_0.2.2.2.2.2.2.2.2.2.2.2.1).trans rfl
theorem nb_dX2_readProduct_22 : bls_w cX2_readProduct [(22, [42]), (23, [16, 47]), (25, [182, 0, 40]), (28, [154, 0, 12]), (31, [42]), (32, [16, 37]), (34, [182, 0, 40]), (37, [153, 0, 34]), (40, [42]), (41, [182, 0, 72]), (44, [62]), (45, [42])] := bls_of (by decide +kernel)
theorem dX2_readProduct_22 : decode cX2_readProduct 22 = .ok (.aload_n 0, 1) := op_42 nb_dX2_readProduct_22.1
set_option maxRecDepth 100000 in
theorem dX2_readProduct_23 : decode cX2_readProduct 23 = .ok (.bipush 47, 2) := (op_16 nb_dX2_readProduct_22.2.1).trans rfl
set_option maxRecDepth 100000 in
theorem dX2_readProduct_25 : decode cX2_readProduct 25 = .ok (.invokevirtual 40, 3) := (op_182 nb_dX2_readProduct_22.2.2.1).trans rfl
set_option maxRecDepth 100000 in
theorem dX2_readProduct_28 : decode cX2_readProduct 28 = .ok (.ifCond .ne 12, 3) := (op_154 nb_dX2_readProduct_22.2.2.2.1).trans rfl
theorem dX2_readProduct_31 : decode cX2_readProduct 31 = .ok (.aload_n 0, 1) := op_42 nb_dX2_readProduct_22.2.2.2.2.1
set_option maxRecDepth 100000 in
theorem dX2_readProduct_32 : decode cX2_readProduct 32 = .ok (.bipush 37, 2) := (op_16 nb_dX2_readProduct_22.2.2.2.2.2.1).trans rfl
set_option maxRecDepth 100000 in
theorem dX2_readProduct_34 : decode cX2_readProduct 34 = .ok (.invokevirtual 40, 3) := (op_182 nb_dX2_readProduct_22.2.2.2.2.2.2.1).trans rfl
set_option maxRecDepth 100000 in
theorem dX2_readProduct_37 : decode cX2_readProduct 37 = .ok (.ifCond .eq 34, 3) := (op_153 nb_dX2_readProduct_22.2.2.2.2.2.2.2.1).trans rfl
theorem dX2_readProduct_40 : decode cX2_readProduct 40 = .ok (.aload_n 0, 1) := op_42 nb_dX2_readProduct_22.2.2.2.2.2.2.2.2.1
set_option maxRecDepth 100000 in
theorem dX2_readProduct_41 : decode cX2_readProduct 41 = .ok (.invokevirtual 72, 3) := (op_182 nb_dX2_readProduct_22.2.2.2.2.2.2.2.2.2.1).trans rfl
theorem dX2_readProduct_44 : decode cX2_readProduct 44 = .ok (.istore_n 3, 1) := op_62 nb_dX2_readProduct_22.2.2.2.2.2.2.2.2.2.2.1
theorem dX2_readProduct_45 : decode cX2_readProduct 45 = .ok (.aload_n 0, 1) := op_42 nb_dX2_readProduct_22.2.2.2.2.2.2.2.2.2.2.2.1
theorem nb_dX2_readProduct_46 : bls_w cX2_readProduct [(46, [89]), (47, [180, 0, 28]), (50, [4]), (51, [96]), (52, [181, 0, 28]), (55, [42]), (56, [27]), (57, [182, 0, 79]), (60, [42]), (61, [29]), (62, [182, 0, 60]), (65, [132, 2, 1])] := bls_of (by decide +kernel)
theorem dX2_readProduct_46 : decode cX2_readProduct 46 = .ok (.dup, 1) := op_89 nb_dX2_readProduct_46.1
set_option maxRecDepth 100000 in
theorem dX2_readProduct_47 : decode cX2_readProduct 47 = .ok (.getfield 28, 3) := (op_180 nb_dX2_readProduct_46.2.1).trans rfl
theorem dX2_readProduct_50 : decode cX2_readProduct 50 = .ok (.iconst 1, 1) := op_4 nb_dX2_readProduct_46.2.2.1
theorem dX2_readProduct_51 : decode cX2_readProduct 51 = .ok (.iadd, 1) := op_96 nb_dX2_readProduct_46.2.2.2.1
set_option maxRecDepth 100000 in
theorem dX2_readProduct_52 : decode cX2_readProduct 52 = .ok (.putfield 28, 3) := (op_181 nb_dX2_readProduct_46.2.2.2.2.1).trans rfl
theorem dX2_readProduct_55 : decode cX2_readProduct 55 = .ok (.aload_n 0, 1) := op_42 nb_dX2_readProduct_46.2.2.2.2.2.1
theorem dX2_readProduct_56 : decode cX2_readProduct 56 = .ok (.iload_n 1, 1) := op_27 nb_dX2_readProduct_46.2.2.2.2.2.2.1
set_option maxRecDepth 100000 in
theorem dX2_readProduct_57 : decode cX2_readProduct 57 = .ok (.invokevirtual 79, 3) := (op_182 nb_dX2_readProduct_46.2.2.2.2.2.2.2.1).trans rfl
theorem dX2_readProduct_60 : decode cX2_readProduct 60 = .ok (.aload_n 0, 1) := op_42 nb_dX2_readProduct_46.2.2.2.2.2.2.2.2.1
theorem dX2_readProduct_61 : decode cX2_readProduct 61 = .ok (.iload_n 3, 1) := op_29 nb_dX2_readProduct_46.2.2.2.2.2.2.2.2.2.1
set_option maxRecDepth 100000 in
theorem dX2_readProduct_62 : decode cX2_readProduct 62 = .ok (.invokevirtual 60, 3) := (op_182 nb_dX2_readProduct_46.2.2.2.2.2.2.2.2.2.2.1).trans rfl
set_option maxRecDepth 100000 in
theorem dX2_readProduct_65 : decode cX2_readProduct 65 = .ok (.iinc 2 1, 3) := (op_132 nb_dX2_readProduct_46.2.2.2.2.2.2.2.2.2.2.2.1).trans rfl
theorem nb_dX2_readProduct_68 : bls_w cX2_readProduct [(68, [167, 255, 195]), (71, [177])] := bls_of (by decide +kernel)
set_option maxRecDepth 100000 in
theorem dX2_readProduct_68 : decode cX2_readProduct 68 = .ok (.goto (-61), 3) := (op_167 nb_dX2_readProduct_68.1).trans rfl
theorem dX2_readProduct_71 : decode cX2_readProduct 71 = .ok (.return_, 1) := op_177 nb_dX2_readProduct_68.2.1
def fX2_readProduct_40 (N : Nat) (go : Int32 → Int32 → Int32 → Int32 → Int32 → List Int32 → List Int32 → Option (Int32 × Int32 × Int32 × List Int32)) (k_7 : Int32 → Int32 → Int32 → Int32 → Int32 → Int32 → List Int32 → List Int32 → Option (Int32 × Int32 × Int32 × List Int32)) (x1 : Int32) (x2 : Int32) (v_size : Int32) (v_draftCount : Int32) (v_place : Int32) (v_fault : Int32) (v_tape : List Int32) (v_draft : List Int32) : Option (Int32 × Int32 × Int32 × List Int32) :=
    mm_bd1 (fX2_next N v_size v_place v_tape) (fun (r_16 : Int32) =>
    mm_nm ((v_place + (1 : Int32))) (fun (y_18 : Int32) =>
    mm_bd4 (go x1 v_size v_draftCount y_18 v_fault v_tape v_draft) (fun (w_19 : Int32) (w_20 : Int32) (w_21 : Int32) (w_22 : List Int32) =>
    mm_bd2 (fX2_note N r_16 w_19 w_22) (fun (w_24 : Int32) (w_25 : List Int32) =>
    mm_nm (x2 + (1 : Int32)) (fun (y_27 : Int32) =>
    k_7 x1 y_27 v_size w_24 w_20 w_21 v_tape w_25)))))

set_option maxHeartbeats 4000000 in
set_option maxRecDepth 100000 in
theorem tX2_readProduct_40 {p : Program} {l : Launch} {e : Env} {s : State} {m : MethodId} {args : Array Value} {below : List Frame} {meth : Method} {c : Code} {D : va_G} {cI cL cS cH : ClassId} {A : Nat → Prop} {d : Nat} {a : Nat → Nat} {go : Int32 → Int32 → Int32 → Int32 → Int32 → List Int32 → List Int32 → Option (Int32 × Int32 × Int32 × List Int32)} {dgo : Nat} (hgo : ∀ (a : Nat → Nat) (x1 : Int32) (v_size : Int32) (v_stepCount : Int32) (v_draftCount : Int32) (v_place : Int32) (v_fault : Int32) (v_stacked : Int32) (v_tape : List Int32) (v_steps : List Int32) (v_draft : List Int32) (v_stack : List Int32) (w_draftCount : Int32) (w_place : Int32) (w_fault : Int32) (w_draft : List Int32), go x1 v_size v_draftCount v_place v_fault v_tape v_draft = some (w_draftCount, w_place, w_fault, w_draft) → mm_Ct l yX2_readOne cX2_readOne 3 none dgo D (mm_T cI cL cS cH) [.ref (a 0), .int x1] (wd_X2 cI cL cS cH a v_size v_stepCount v_draftCount v_place v_fault v_stacked v_tape v_steps v_draft v_stack) (wd_X2 cI cL cS cH a v_size v_stepCount w_draftCount w_place w_fault v_stacked v_tape v_steps w_draft v_stack) none) (hE : 2 ≤ dgo) (hd : dgo + 1 ≤ d) (C0 : mm_Cx p s m args meth c RX2 cX2_readProduct 4 none D (mm_T cI cL cS cH) A) (hA : ∀ q, s.heap.size ≤ q → A q) {v_stepCount : Int32} {v_stacked : Int32} {v_steps : List Int32} {v_stack : List Int32} {w_draftCount : Int32} {w_place : Int32} {w_fault : Int32} {w_draft : List Int32} (N : Nat) {k_7 : Int32 → Int32 → Int32 → Int32 → Int32 → Int32 → List Int32 → List Int32 → Option (Int32 × Int32 × Int32 × List Int32)} (hk_7 : ∀ (x1 : Int32) (x2 : Int32) (v_size : Int32) (v_draftCount : Int32) (v_place : Int32) (v_fault : Int32) (v_tape : List Int32) (v_draft : List Int32) (H : Heap) (locs : List Loc) (ls : Array Slot), k_7 x1 x2 v_size v_draftCount v_place v_fault v_tape v_draft = some (w_draftCount, w_place, w_fault, w_draft) → va_P D mm_cl (wd_X2 cI cL cS cH a v_size v_stepCount v_draftCount v_place v_fault v_stacked v_tape v_steps v_draft v_stack) H → va_D A (wd_X2 cI cL cS cH a v_size v_stepCount v_draftCount v_place v_fault v_stacked v_tape v_steps v_draft v_stack) → va_S A s.heap H locs → lv_has ls 4 [(0, .ref (a 0)), (1, .int x1), (2, .int x2)] → W p l e (mm_rr d) s m args below meth c H locs 0 0 (mm_Z below D A (wd_X2 cI cL cS cH a v_size v_stepCount w_draftCount w_place w_fault v_stacked v_tape v_steps w_draft v_stack) none args s) (F0 m 7 ls [])) : ∀ (x1 : Int32) (x2 : Int32) (v_size : Int32) (v_draftCount : Int32) (v_place : Int32) (v_fault : Int32) (v_tape : List Int32) (v_draft : List Int32) (H : Heap) (locs : List Loc) (ls : Array Slot), fX2_readProduct_40 N go k_7 x1 x2 v_size v_draftCount v_place v_fault v_tape v_draft = some (w_draftCount, w_place, w_fault, w_draft) → va_P D mm_cl (wd_X2 cI cL cS cH a v_size v_stepCount v_draftCount v_place v_fault v_stacked v_tape v_steps v_draft v_stack) H → va_D A (wd_X2 cI cL cS cH a v_size v_stepCount v_draftCount v_place v_fault v_stacked v_tape v_steps v_draft v_stack) → va_S A s.heap H locs → lv_has ls 4 [(0, .ref (a 0)), (1, .int x1), (2, .int x2)] → W p l e (mm_rr d) s m args below meth c H locs 0 0 (mm_Z below D A (wd_X2 cI cL cS cH a v_size v_stepCount w_draftCount w_place w_fault v_stacked v_tape v_steps w_draft v_stack) none args s) (F0 m 40 ls []) := by
  obtain ⟨hx, hb, hml, hown, hts, hr, hlocks, hK, hSt⟩ := id C0
  intro x1 x2 v_size v_draftCount v_place v_fault v_tape v_draft H locs ls hf hP hD hS hl
  unfold fX2_readProduct_40 at hf
  refine lv_aload_n hx hb dX2_readProduct_40 rfl (lv_at hl 0 rfl) ?_
  obtain ⟨r_16, hc_17, hf⟩ := mm_bd1s hf
  refine mm_callVF (q0 := 0) (ci := 2) (rest := []) C0 lk_X2_72 (ctX2_next (a := a) (d := d - 1) (by omega) hc_17) (by omega) rfl hl.1 rfl (mm_cat rfl) dX2_readProduct_41 hP hD hA hS rfl rfl (fun H locs hP hD hS => ?_)
  refine W.eq (g2 := F0 m 44 ls [.int r_16]) rfl ?_
  refine lv_istore_n (lv' := [(3, .int r_16), (0, .ref (a 0)), (1, .int x1), (2, .int x2)]) hx hb dX2_readProduct_44 rfl hl (by decide) rfl (fun ls hl => ?_)
  refine lv_aload_n hx hb dX2_readProduct_45 rfl (lv_at hl 1 rfl) ?_
  refine lv_dup hx hb dX2_readProduct_46 rfl ?_
  refine mm_get C0 hP iw_X2 0 rfl rfl 6 (by decide) fl_X2_28 rfl dX2_readProduct_47 ?_
  refine lv_iconst (v := 1) hx hb dX2_readProduct_50 (by decide) ?_
  refine lv_iadd hx hb dX2_readProduct_51 ?_
  refine lv_topi (fun y_18 ey_18 => ?_)
  have hf := mm_nms hf ey_18
  refine mm_put C0 hP hD hS iw_X2 tyX2 tyX2_ok nmX2 0 rfl rfl 6 (by decide) fl_X2_28 rfl rfl rfl (Nat.le_of_ble_eq_true rfl) dX2_readProduct_52 (w2 := (wd_X2 cI cL cS cH a v_size v_stepCount v_draftCount y_18 v_fault v_stacked v_tape v_steps v_draft v_stack)) rfl (fun H locs hP hD hS => ?_)
  refine lv_aload_n hx hb dX2_readProduct_55 rfl (lv_at hl 1 rfl) ?_
  refine lv_iload_n hx hb dX2_readProduct_56 rfl (lv_at hl 2 rfl) ?_
  obtain ⟨w_19, w_20, w_21, w_22, hc_23, hf⟩ := mm_bd4s hf
  refine mm_callVF (q0 := 0) (ci := 2) (rest := []) C0 lk_X2_79 (hgo a _ _ _ _ _ _ _ _ _ _ _ _ _ _ _ hc_23) (by omega) rfl hl.1 rfl (mm_cat rfl) dX2_readProduct_57 hP hD hA hS rfl rfl (fun H locs hP hD hS => ?_)
  refine W.eq (g2 := F0 m 60 ls []) rfl ?_
  refine lv_aload_n hx hb dX2_readProduct_60 rfl (lv_at hl 1 rfl) ?_
  refine lv_iload_n hx hb dX2_readProduct_61 rfl (lv_at hl 0 rfl) ?_
  obtain ⟨w_24, w_25, hc_26, hf⟩ := mm_bd2s hf
  refine mm_callVF (q0 := 0) (ci := 2) (rest := []) C0 lk_X2_60 (ctX2_note (a := a) (d := d - 1) (by omega) hc_26) (by omega) rfl hl.1 rfl (mm_cat rfl) dX2_readProduct_62 hP hD hA hS rfl rfl (fun H locs hP hD hS => ?_)
  refine W.eq (g2 := F0 m 65 ls []) rfl ?_
  obtain ⟨y_27, ey_27⟩ : ∃ z : Int32, z = x2 + (1 : Int32) := ⟨_, rfl⟩
  have hf := mm_nms hf ey_27
  refine lv_iinc (v := y_27) (lv' := [(2, .int y_27), (3, .int r_16), (0, .ref (a 0)), (1, .int x1)]) hx hb dX2_readProduct_65 hl (k := 3) rfl (by rw [ey_27]; rfl) (by decide) rfl (fun ls hl => ?_)
  refine lv_goto (tgt := 7) hx hb dX2_readProduct_68 (by decide) ?_
  exact hk_7 _ _ _ _ _ _ _ _ H locs ls hf hP hD hS (lv_sub hl [2, 3, 0] rfl)

def fX2_readProduct_7 (N : Nat) (go : Int32 → Int32 → Int32 → Int32 → Int32 → List Int32 → List Int32 → Option (Int32 × Int32 × Int32 × List Int32))  : Nat → Int32 → Int32 → Int32 → Int32 → Int32 → Int32 → List Int32 → List Int32 → Option (Int32 × Int32 × Int32 × List Int32)
  | 0 => fun _ _ _ _ _ _ _ _ => none
  | n + 1 => fun x1 x2 v_size v_draftCount v_place v_fault v_tape v_draft =>
    if (120 : Int32) ≤ x2 then
    (some (v_draftCount, v_place, v_fault, v_draft))
    else (mm_bd1 (fX2_meets N (42 : Int32) v_size v_place v_fault v_tape) (fun (r_7 : Bool) =>
    if r_7 = false then
    (mm_bd1 (fX2_meets N (47 : Int32) v_size v_place v_fault v_tape) (fun (r_10 : Bool) =>
    if r_10 = false then
    (mm_bd1 (fX2_meets N (37 : Int32) v_size v_place v_fault v_tape) (fun (r_13 : Bool) =>
    if r_13 = false then
    (some (v_draftCount, v_place, v_fault, v_draft))
    else (fX2_readProduct_40 N go (fX2_readProduct_7 N go n) x1 x2 v_size v_draftCount v_place v_fault v_tape v_draft)))
    else (fX2_readProduct_40 N go (fX2_readProduct_7 N go n) x1 x2 v_size v_draftCount v_place v_fault v_tape v_draft)))
    else (fX2_readProduct_40 N go (fX2_readProduct_7 N go n) x1 x2 v_size v_draftCount v_place v_fault v_tape v_draft)))

set_option maxHeartbeats 4000000 in
set_option maxRecDepth 100000 in
theorem tX2_readProduct_7 {p : Program} {l : Launch} {e : Env} {s : State} {m : MethodId} {args : Array Value} {below : List Frame} {meth : Method} {c : Code} {D : va_G} {cI cL cS cH : ClassId} {A : Nat → Prop} {d : Nat} {a : Nat → Nat} {go : Int32 → Int32 → Int32 → Int32 → Int32 → List Int32 → List Int32 → Option (Int32 × Int32 × Int32 × List Int32)} {dgo : Nat} (hgo : ∀ (a : Nat → Nat) (x1 : Int32) (v_size : Int32) (v_stepCount : Int32) (v_draftCount : Int32) (v_place : Int32) (v_fault : Int32) (v_stacked : Int32) (v_tape : List Int32) (v_steps : List Int32) (v_draft : List Int32) (v_stack : List Int32) (w_draftCount : Int32) (w_place : Int32) (w_fault : Int32) (w_draft : List Int32), go x1 v_size v_draftCount v_place v_fault v_tape v_draft = some (w_draftCount, w_place, w_fault, w_draft) → mm_Ct l yX2_readOne cX2_readOne 3 none dgo D (mm_T cI cL cS cH) [.ref (a 0), .int x1] (wd_X2 cI cL cS cH a v_size v_stepCount v_draftCount v_place v_fault v_stacked v_tape v_steps v_draft v_stack) (wd_X2 cI cL cS cH a v_size v_stepCount w_draftCount w_place w_fault v_stacked v_tape v_steps w_draft v_stack) none) (hE : 2 ≤ dgo) (hd : dgo + 1 ≤ d) (C0 : mm_Cx p s m args meth c RX2 cX2_readProduct 4 none D (mm_T cI cL cS cH) A) (hA : ∀ q, s.heap.size ≤ q → A q) {v_stepCount : Int32} {v_stacked : Int32} {v_steps : List Int32} {v_stack : List Int32} {w_draftCount : Int32} {w_place : Int32} {w_fault : Int32} {w_draft : List Int32} (N : Nat)  : ∀ (n : Nat), ∀ (x1 : Int32) (x2 : Int32) (v_size : Int32) (v_draftCount : Int32) (v_place : Int32) (v_fault : Int32) (v_tape : List Int32) (v_draft : List Int32) (H : Heap) (locs : List Loc) (ls : Array Slot), fX2_readProduct_7 N go n x1 x2 v_size v_draftCount v_place v_fault v_tape v_draft = some (w_draftCount, w_place, w_fault, w_draft) → va_P D mm_cl (wd_X2 cI cL cS cH a v_size v_stepCount v_draftCount v_place v_fault v_stacked v_tape v_steps v_draft v_stack) H → va_D A (wd_X2 cI cL cS cH a v_size v_stepCount v_draftCount v_place v_fault v_stacked v_tape v_steps v_draft v_stack) → va_S A s.heap H locs → lv_has ls 4 [(0, .ref (a 0)), (1, .int x1), (2, .int x2)] → W p l e (mm_rr d) s m args below meth c H locs 0 0 (mm_Z below D A (wd_X2 cI cL cS cH a v_size v_stepCount w_draftCount w_place w_fault v_stacked v_tape v_steps w_draft v_stack) none args s) (F0 m 7 ls []) := by
  obtain ⟨hx, hb, hml, hown, hts, hr, hlocks, hK, hSt⟩ := id C0
  intro n
  induction n with
  | zero =>
    intro x1 x2 v_size v_draftCount v_place v_fault v_tape v_draft H locs ls hf
    cases (show none = some _ from hf)
  | succ n ih =>
    intro x1 x2 v_size v_draftCount v_place v_fault v_tape v_draft H locs ls hf hP hD hS hl
    unfold fX2_readProduct_7 at hf
    refine lv_iload_n hx hb dX2_readProduct_7 rfl (lv_at hl 2 rfl) ?_
    refine lv_bipush (v := 120) hx hb dX2_readProduct_8 (by decide) ?_
    refine lv_icmp_ge (tgt := 71) hx hb dX2_readProduct_10 (by decide) (fun c_6 => ?_) (fun c_6 => ?_)
    · have hf := mm_ip hf c_6
      apply mm_sub4 hf
      exact mm_vret C0 hP hD hS dX2_readProduct_71
    · have hf := mm_in hf c_6
      refine lv_aload_n hx hb dX2_readProduct_13 rfl (lv_at hl 0 rfl) ?_
      refine lv_bipush (v := 42) hx hb dX2_readProduct_14 (by decide) ?_
      obtain ⟨r_7, hc_8, hf⟩ := mm_bd1s hf
      refine mm_callVF (q0 := 0) (ci := 2) (rest := []) C0 lk_X2_40 (ctX2_meets (a := a) (d := d - 1) (by omega) hc_8) (by omega) rfl hl.1 rfl (mm_cat rfl) dX2_readProduct_16 hP hD hA hS rfl rfl (fun H locs hP hD hS => ?_)
      refine W.eq (g2 := F0 m 19 ls [.int (mm_b r_7)]) rfl ?_
      refine lv_if_ne (tgt := 40) hx hb dX2_readProduct_19 (by decide) (fun c_9 => ?_) (fun c_9 => ?_)
      · have hf := mm_in hf (mm_b1 c_9)
        exact tX2_readProduct_40 hgo hE hd C0 hA N ih _ _ _ _ _ _ _ _ H locs ls hf hP hD hS (lv_sub hl [0, 1, 2] rfl)
      · have hf := mm_ip hf (mm_b0 c_9)
        refine lv_aload_n hx hb dX2_readProduct_22 rfl (lv_at hl 0 rfl) ?_
        refine lv_bipush (v := 47) hx hb dX2_readProduct_23 (by decide) ?_
        obtain ⟨r_10, hc_11, hf⟩ := mm_bd1s hf
        refine mm_callVF (q0 := 0) (ci := 2) (rest := []) C0 lk_X2_40 (ctX2_meets (a := a) (d := d - 1) (by omega) hc_11) (by omega) rfl hl.1 rfl (mm_cat rfl) dX2_readProduct_25 hP hD hA hS rfl rfl (fun H locs hP hD hS => ?_)
        refine W.eq (g2 := F0 m 28 ls [.int (mm_b r_10)]) rfl ?_
        refine lv_if_ne (tgt := 40) hx hb dX2_readProduct_28 (by decide) (fun c_12 => ?_) (fun c_12 => ?_)
        · have hf := mm_in hf (mm_b1 c_12)
          exact tX2_readProduct_40 hgo hE hd C0 hA N ih _ _ _ _ _ _ _ _ H locs ls hf hP hD hS (lv_sub hl [0, 1, 2] rfl)
        · have hf := mm_ip hf (mm_b0 c_12)
          refine lv_aload_n hx hb dX2_readProduct_31 rfl (lv_at hl 0 rfl) ?_
          refine lv_bipush (v := 37) hx hb dX2_readProduct_32 (by decide) ?_
          obtain ⟨r_13, hc_14, hf⟩ := mm_bd1s hf
          refine mm_callVF (q0 := 0) (ci := 2) (rest := []) C0 lk_X2_40 (ctX2_meets (a := a) (d := d - 1) (by omega) hc_14) (by omega) rfl hl.1 rfl (mm_cat rfl) dX2_readProduct_34 hP hD hA hS rfl rfl (fun H locs hP hD hS => ?_)
          refine W.eq (g2 := F0 m 37 ls [.int (mm_b r_13)]) rfl ?_
          refine lv_if_eq (tgt := 71) hx hb dX2_readProduct_37 (by decide) (fun c_15 => ?_) (fun c_15 => ?_)
          · have hf := mm_ip hf (mm_b0 c_15)
            apply mm_sub4 hf
            exact mm_vret C0 hP hD hS dX2_readProduct_71
          · have hf := mm_in hf (mm_b1 c_15)
            exact tX2_readProduct_40 hgo hE hd C0 hA N ih _ _ _ _ _ _ _ _ H locs ls hf hP hD hS (lv_sub hl [0, 1, 2] rfl)

def fX2_readProduct (N : Nat) (go : Int32 → Int32 → Int32 → Int32 → Int32 → List Int32 → List Int32 → Option (Int32 × Int32 × Int32 × List Int32)) (x1 : Int32) (v_size : Int32) (v_draftCount : Int32) (v_place : Int32) (v_fault : Int32) (v_tape : List Int32) (v_draft : List Int32) : Option (Int32 × Int32 × Int32 × List Int32) :=
    mm_bd4 (go x1 v_size v_draftCount v_place v_fault v_tape v_draft) (fun (w_1 : Int32) (w_2 : Int32) (w_3 : Int32) (w_4 : List Int32) =>
    fX2_readProduct_7 N go N x1 (0 : Int32) v_size w_1 w_2 w_3 v_tape w_4)

set_option maxHeartbeats 4000000 in
set_option maxRecDepth 100000 in
theorem ctX2_readProduct {l : Launch} {D : va_G} {cI cL cS cH : ClassId} {a : Nat → Nat} {x1 : Int32} {v_size : Int32} {v_stepCount : Int32} {v_draftCount : Int32} {v_place : Int32} {v_fault : Int32} {v_stacked : Int32} {v_tape : List Int32} {v_steps : List Int32} {v_draft : List Int32} {v_stack : List Int32} {w_draftCount : Int32} {w_place : Int32} {w_fault : Int32} {w_draft : List Int32} {N d : Nat} {go : Int32 → Int32 → Int32 → Int32 → Int32 → List Int32 → List Int32 → Option (Int32 × Int32 × Int32 × List Int32)} {dgo : Nat} (hgo : ∀ (a : Nat → Nat) (x1 : Int32) (v_size : Int32) (v_stepCount : Int32) (v_draftCount : Int32) (v_place : Int32) (v_fault : Int32) (v_stacked : Int32) (v_tape : List Int32) (v_steps : List Int32) (v_draft : List Int32) (v_stack : List Int32) (w_draftCount : Int32) (w_place : Int32) (w_fault : Int32) (w_draft : List Int32), go x1 v_size v_draftCount v_place v_fault v_tape v_draft = some (w_draftCount, w_place, w_fault, w_draft) → mm_Ct l yX2_readOne cX2_readOne 3 none dgo D (mm_T cI cL cS cH) [.ref (a 0), .int x1] (wd_X2 cI cL cS cH a v_size v_stepCount v_draftCount v_place v_fault v_stacked v_tape v_steps v_draft v_stack) (wd_X2 cI cL cS cH a v_size v_stepCount w_draftCount w_place w_fault v_stacked v_tape v_steps w_draft v_stack) none) (hE : 2 ≤ dgo) (hd : dgo + 1 ≤ d) (hf : fX2_readProduct N go x1 v_size v_draftCount v_place v_fault v_tape v_draft = some (w_draftCount, w_place, w_fault, w_draft)) : mm_Ct l yX2_readProduct cX2_readProduct 4 none d D (mm_T cI cL cS cH) [.ref (a 0), .int x1] (wd_X2 cI cL cS cH a v_size v_stepCount v_draftCount v_place v_fault v_stacked v_tape v_steps v_draft v_stack) (wd_X2 cI cL cS cH a v_size v_stepCount w_draftCount w_place w_fault v_stacked v_tape v_steps w_draft v_stack) none := by
  refine mm_of (by decide) (Nat.le_of_ble_eq_true rfl) ?_
  intro p e s m args below meth c A H locs ls C0 hP hD hA hS hl
  have C0 : mm_Cx p s m args meth c RX2 cX2_readProduct 4 none D (mm_T cI cL cS cH) A := C0
  obtain ⟨hx, hb, hml, hown, hts, hr, hlocks, hK, hSt⟩ := id C0
  have hl : lv_has ls 4 [(0, .ref (a 0)), (1, .int x1)] := hl
  unfold fX2_readProduct at hf
  refine lv_aload_n hx hb dX2_readProduct_0 rfl (lv_at hl 0 rfl) ?_
  refine lv_iload_n hx hb dX2_readProduct_1 rfl (lv_at hl 1 rfl) ?_
  obtain ⟨w_1, w_2, w_3, w_4, hc_5, hf⟩ := mm_bd4s hf
  refine mm_callVF (q0 := 0) (ci := 2) (rest := []) C0 lk_X2_79 (hgo a _ _ _ _ _ _ _ _ _ _ _ _ _ _ _ hc_5) (by omega) rfl hl.1 rfl (mm_cat rfl) dX2_readProduct_2 hP hD hA hS rfl rfl (fun H locs hP hD hS => ?_)
  refine W.eq (g2 := F0 m 5 ls []) rfl ?_
  refine lv_iconst (v := 0) hx hb dX2_readProduct_5 (by decide) ?_
  refine lv_istore_n (lv' := [(2, .int (0 : Int32)), (0, .ref (a 0)), (1, .int x1)]) hx hb dX2_readProduct_6 rfl hl (by decide) rfl (fun ls hl => ?_)
  exact tX2_readProduct_7 hgo hE hd C0 hA N  N _ _ _ _ _ _ _ _ H locs ls hf hP hD hS (lv_sub hl [1, 2, 0] rfl)

theorem nb_dX2_readSum_0 : bls_w cX2_readSum [(0, [42]), (1, [27]), (2, [182, 0, 76]), (5, [3]), (6, [61]), (7, [28]), (8, [16, 120]), (10, [162, 0, 52]), (13, [42]), (14, [16, 43]), (16, [182, 0, 40]), (19, [154, 0, 12])] := bls_of (by decide +kernel)
theorem dX2_readSum_0 : decode cX2_readSum 0 = .ok (.aload_n 0, 1) := op_42 nb_dX2_readSum_0.1
theorem dX2_readSum_1 : decode cX2_readSum 1 = .ok (.iload_n 1, 1) := op_27 nb_dX2_readSum_0.2.1
set_option maxRecDepth 100000 in
theorem dX2_readSum_2 : decode cX2_readSum 2 = .ok (.invokevirtual 76, 3) := (op_182 nb_dX2_readSum_0.2.2.1).trans rfl
theorem dX2_readSum_5 : decode cX2_readSum 5 = .ok (.iconst 0, 1) := op_3 nb_dX2_readSum_0.2.2.2.1
theorem dX2_readSum_6 : decode cX2_readSum 6 = .ok (.istore_n 2, 1) := op_61 nb_dX2_readSum_0.2.2.2.2.1
theorem dX2_readSum_7 : decode cX2_readSum 7 = .ok (.iload_n 2, 1) := op_28 nb_dX2_readSum_0.2.2.2.2.2.1
set_option maxRecDepth 100000 in
theorem dX2_readSum_8 : decode cX2_readSum 8 = .ok (.bipush 120, 2) := (op_16 nb_dX2_readSum_0.2.2.2.2.2.2.1).trans rfl
set_option maxRecDepth 100000 in
theorem dX2_readSum_10 : decode cX2_readSum 10 = .ok (.if_icmp .ge 52, 3) := (op_162 nb_dX2_readSum_0.2.2.2.2.2.2.2.1).trans rfl
theorem dX2_readSum_13 : decode cX2_readSum 13 = .ok (.aload_n 0, 1) := op_42 nb_dX2_readSum_0.2.2.2.2.2.2.2.2.1
set_option maxRecDepth 100000 in
theorem dX2_readSum_14 : decode cX2_readSum 14 = .ok (.bipush 43, 2) := (op_16 nb_dX2_readSum_0.2.2.2.2.2.2.2.2.2.1).trans rfl
set_option maxRecDepth 100000 in
theorem dX2_readSum_16 : decode cX2_readSum 16 = .ok (.invokevirtual 40, 3) := (op_182 nb_dX2_readSum_0.2.2.2.2.2.2.2.2.2.2.1).trans rfl
set_option maxRecDepth 100000 in
theorem dX2_readSum_19 : decode cX2_readSum 19 = .ok (.ifCond .ne 12, 3) := (op_154 nb_dX2_readSum_0.2.2.2.2.2.2.2.2.2.2.2.1).trans rfl
theorem nb_dX2_readSum_22 : bls_w cX2_readSum [(22, [42]), (23, [16, 45]), (25, [182, 0, 40]), (28, [153, 0, 34]), (31, [42]), (32, [182, 0, 72]), (35, [62]), (36, [42]), (37, [89]), (38, [180, 0, 28]), (41, [4]), (42, [96])] := bls_of (by decide +kernel)
theorem dX2_readSum_22 : decode cX2_readSum 22 = .ok (.aload_n 0, 1) := op_42 nb_dX2_readSum_22.1
set_option maxRecDepth 100000 in
theorem dX2_readSum_23 : decode cX2_readSum 23 = .ok (.bipush 45, 2) := (op_16 nb_dX2_readSum_22.2.1).trans rfl
set_option maxRecDepth 100000 in
theorem dX2_readSum_25 : decode cX2_readSum 25 = .ok (.invokevirtual 40, 3) := (op_182 nb_dX2_readSum_22.2.2.1).trans rfl
set_option maxRecDepth 100000 in
theorem dX2_readSum_28 : decode cX2_readSum 28 = .ok (.ifCond .eq 34, 3) := (op_153 nb_dX2_readSum_22.2.2.2.1).trans rfl
theorem dX2_readSum_31 : decode cX2_readSum 31 = .ok (.aload_n 0, 1) := op_42 nb_dX2_readSum_22.2.2.2.2.1
set_option maxRecDepth 100000 in
theorem dX2_readSum_32 : decode cX2_readSum 32 = .ok (.invokevirtual 72, 3) := (op_182 nb_dX2_readSum_22.2.2.2.2.2.1).trans rfl
theorem dX2_readSum_35 : decode cX2_readSum 35 = .ok (.istore_n 3, 1) := op_62 nb_dX2_readSum_22.2.2.2.2.2.2.1
theorem dX2_readSum_36 : decode cX2_readSum 36 = .ok (.aload_n 0, 1) := op_42 nb_dX2_readSum_22.2.2.2.2.2.2.2.1
theorem dX2_readSum_37 : decode cX2_readSum 37 = .ok (.dup, 1) := op_89 nb_dX2_readSum_22.2.2.2.2.2.2.2.2.1
set_option maxRecDepth 100000 in
theorem dX2_readSum_38 : decode cX2_readSum 38 = .ok (.getfield 28, 3) := (op_180 nb_dX2_readSum_22.2.2.2.2.2.2.2.2.2.1).trans rfl
theorem dX2_readSum_41 : decode cX2_readSum 41 = .ok (.iconst 1, 1) := op_4 nb_dX2_readSum_22.2.2.2.2.2.2.2.2.2.2.1
theorem dX2_readSum_42 : decode cX2_readSum 42 = .ok (.iadd, 1) := op_96 nb_dX2_readSum_22.2.2.2.2.2.2.2.2.2.2.2.1
theorem nb_dX2_readSum_43 : bls_w cX2_readSum [(43, [181, 0, 28]), (46, [42]), (47, [27]), (48, [182, 0, 76]), (51, [42]), (52, [29]), (53, [182, 0, 60]), (56, [132, 2, 1]), (59, [167, 255, 204]), (62, [177])] := bls_of (by decide +kernel)
set_option maxRecDepth 100000 in
theorem dX2_readSum_43 : decode cX2_readSum 43 = .ok (.putfield 28, 3) := (op_181 nb_dX2_readSum_43.1).trans rfl
theorem dX2_readSum_46 : decode cX2_readSum 46 = .ok (.aload_n 0, 1) := op_42 nb_dX2_readSum_43.2.1
theorem dX2_readSum_47 : decode cX2_readSum 47 = .ok (.iload_n 1, 1) := op_27 nb_dX2_readSum_43.2.2.1
set_option maxRecDepth 100000 in
theorem dX2_readSum_48 : decode cX2_readSum 48 = .ok (.invokevirtual 76, 3) := (op_182 nb_dX2_readSum_43.2.2.2.1).trans rfl
theorem dX2_readSum_51 : decode cX2_readSum 51 = .ok (.aload_n 0, 1) := op_42 nb_dX2_readSum_43.2.2.2.2.1
theorem dX2_readSum_52 : decode cX2_readSum 52 = .ok (.iload_n 3, 1) := op_29 nb_dX2_readSum_43.2.2.2.2.2.1
set_option maxRecDepth 100000 in
theorem dX2_readSum_53 : decode cX2_readSum 53 = .ok (.invokevirtual 60, 3) := (op_182 nb_dX2_readSum_43.2.2.2.2.2.2.1).trans rfl
set_option maxRecDepth 100000 in
theorem dX2_readSum_56 : decode cX2_readSum 56 = .ok (.iinc 2 1, 3) := (op_132 nb_dX2_readSum_43.2.2.2.2.2.2.2.1).trans rfl
set_option maxRecDepth 100000 in
theorem dX2_readSum_59 : decode cX2_readSum 59 = .ok (.goto (-52), 3) := (op_167 nb_dX2_readSum_43.2.2.2.2.2.2.2.2.1).trans rfl
theorem dX2_readSum_62 : decode cX2_readSum 62 = .ok (.return_, 1) := op_177 nb_dX2_readSum_43.2.2.2.2.2.2.2.2.2.1
def fX2_readSum_31 (N : Nat) (go : Int32 → Int32 → Int32 → Int32 → Int32 → List Int32 → List Int32 → Option (Int32 × Int32 × Int32 × List Int32)) (k_7 : Int32 → Int32 → Int32 → Int32 → Int32 → Int32 → List Int32 → List Int32 → Option (Int32 × Int32 × Int32 × List Int32)) (x1 : Int32) (x2 : Int32) (v_size : Int32) (v_draftCount : Int32) (v_place : Int32) (v_fault : Int32) (v_tape : List Int32) (v_draft : List Int32) : Option (Int32 × Int32 × Int32 × List Int32) :=
    mm_bd1 (fX2_next N v_size v_place v_tape) (fun (r_13 : Int32) =>
    mm_nm ((v_place + (1 : Int32))) (fun (y_15 : Int32) =>
    mm_bd4 (fX2_readProduct N go x1 v_size v_draftCount y_15 v_fault v_tape v_draft) (fun (w_16 : Int32) (w_17 : Int32) (w_18 : Int32) (w_19 : List Int32) =>
    mm_bd2 (fX2_note N r_13 w_16 w_19) (fun (w_21 : Int32) (w_22 : List Int32) =>
    mm_nm (x2 + (1 : Int32)) (fun (y_24 : Int32) =>
    k_7 x1 y_24 v_size w_21 w_17 w_18 v_tape w_22)))))

set_option maxHeartbeats 4000000 in
set_option maxRecDepth 100000 in
theorem tX2_readSum_31 {p : Program} {l : Launch} {e : Env} {s : State} {m : MethodId} {args : Array Value} {below : List Frame} {meth : Method} {c : Code} {D : va_G} {cI cL cS cH : ClassId} {A : Nat → Prop} {d : Nat} {a : Nat → Nat} {go : Int32 → Int32 → Int32 → Int32 → Int32 → List Int32 → List Int32 → Option (Int32 × Int32 × Int32 × List Int32)} {dgo : Nat} (hgo : ∀ (a : Nat → Nat) (x1 : Int32) (v_size : Int32) (v_stepCount : Int32) (v_draftCount : Int32) (v_place : Int32) (v_fault : Int32) (v_stacked : Int32) (v_tape : List Int32) (v_steps : List Int32) (v_draft : List Int32) (v_stack : List Int32) (w_draftCount : Int32) (w_place : Int32) (w_fault : Int32) (w_draft : List Int32), go x1 v_size v_draftCount v_place v_fault v_tape v_draft = some (w_draftCount, w_place, w_fault, w_draft) → mm_Ct l yX2_readOne cX2_readOne 3 none dgo D (mm_T cI cL cS cH) [.ref (a 0), .int x1] (wd_X2 cI cL cS cH a v_size v_stepCount v_draftCount v_place v_fault v_stacked v_tape v_steps v_draft v_stack) (wd_X2 cI cL cS cH a v_size v_stepCount w_draftCount w_place w_fault v_stacked v_tape v_steps w_draft v_stack) none) (hE : 2 ≤ dgo) (hd : dgo + 2 ≤ d) (C0 : mm_Cx p s m args meth c RX2 cX2_readSum 4 none D (mm_T cI cL cS cH) A) (hA : ∀ q, s.heap.size ≤ q → A q) {v_stepCount : Int32} {v_stacked : Int32} {v_steps : List Int32} {v_stack : List Int32} {w_draftCount : Int32} {w_place : Int32} {w_fault : Int32} {w_draft : List Int32} (N : Nat) {k_7 : Int32 → Int32 → Int32 → Int32 → Int32 → Int32 → List Int32 → List Int32 → Option (Int32 × Int32 × Int32 × List Int32)} (hk_7 : ∀ (x1 : Int32) (x2 : Int32) (v_size : Int32) (v_draftCount : Int32) (v_place : Int32) (v_fault : Int32) (v_tape : List Int32) (v_draft : List Int32) (H : Heap) (locs : List Loc) (ls : Array Slot), k_7 x1 x2 v_size v_draftCount v_place v_fault v_tape v_draft = some (w_draftCount, w_place, w_fault, w_draft) → va_P D mm_cl (wd_X2 cI cL cS cH a v_size v_stepCount v_draftCount v_place v_fault v_stacked v_tape v_steps v_draft v_stack) H → va_D A (wd_X2 cI cL cS cH a v_size v_stepCount v_draftCount v_place v_fault v_stacked v_tape v_steps v_draft v_stack) → va_S A s.heap H locs → lv_has ls 4 [(0, .ref (a 0)), (1, .int x1), (2, .int x2)] → W p l e (mm_rr d) s m args below meth c H locs 0 0 (mm_Z below D A (wd_X2 cI cL cS cH a v_size v_stepCount w_draftCount w_place w_fault v_stacked v_tape v_steps w_draft v_stack) none args s) (F0 m 7 ls [])) : ∀ (x1 : Int32) (x2 : Int32) (v_size : Int32) (v_draftCount : Int32) (v_place : Int32) (v_fault : Int32) (v_tape : List Int32) (v_draft : List Int32) (H : Heap) (locs : List Loc) (ls : Array Slot), fX2_readSum_31 N go k_7 x1 x2 v_size v_draftCount v_place v_fault v_tape v_draft = some (w_draftCount, w_place, w_fault, w_draft) → va_P D mm_cl (wd_X2 cI cL cS cH a v_size v_stepCount v_draftCount v_place v_fault v_stacked v_tape v_steps v_draft v_stack) H → va_D A (wd_X2 cI cL cS cH a v_size v_stepCount v_draftCount v_place v_fault v_stacked v_tape v_steps v_draft v_stack) → va_S A s.heap H locs → lv_has ls 4 [(0, .ref (a 0)), (1, .int x1), (2, .int x2)] → W p l e (mm_rr d) s m args below meth c H locs 0 0 (mm_Z below D A (wd_X2 cI cL cS cH a v_size v_stepCount w_draftCount w_place w_fault v_stacked v_tape v_steps w_draft v_stack) none args s) (F0 m 31 ls []) := by
  obtain ⟨hx, hb, hml, hown, hts, hr, hlocks, hK, hSt⟩ := id C0
  intro x1 x2 v_size v_draftCount v_place v_fault v_tape v_draft H locs ls hf hP hD hS hl
  unfold fX2_readSum_31 at hf
  refine lv_aload_n hx hb dX2_readSum_31 rfl (lv_at hl 0 rfl) ?_
  obtain ⟨r_13, hc_14, hf⟩ := mm_bd1s hf
  refine mm_callVF (q0 := 0) (ci := 2) (rest := []) C0 lk_X2_72 (ctX2_next (a := a) (d := d - 1) (by omega) hc_14) (by omega) rfl hl.1 rfl (mm_cat rfl) dX2_readSum_32 hP hD hA hS rfl rfl (fun H locs hP hD hS => ?_)
  refine W.eq (g2 := F0 m 35 ls [.int r_13]) rfl ?_
  refine lv_istore_n (lv' := [(3, .int r_13), (0, .ref (a 0)), (1, .int x1), (2, .int x2)]) hx hb dX2_readSum_35 rfl hl (by decide) rfl (fun ls hl => ?_)
  refine lv_aload_n hx hb dX2_readSum_36 rfl (lv_at hl 1 rfl) ?_
  refine lv_dup hx hb dX2_readSum_37 rfl ?_
  refine mm_get C0 hP iw_X2 0 rfl rfl 6 (by decide) fl_X2_28 rfl dX2_readSum_38 ?_
  refine lv_iconst (v := 1) hx hb dX2_readSum_41 (by decide) ?_
  refine lv_iadd hx hb dX2_readSum_42 ?_
  refine lv_topi (fun y_15 ey_15 => ?_)
  have hf := mm_nms hf ey_15
  refine mm_put C0 hP hD hS iw_X2 tyX2 tyX2_ok nmX2 0 rfl rfl 6 (by decide) fl_X2_28 rfl rfl rfl (Nat.le_of_ble_eq_true rfl) dX2_readSum_43 (w2 := (wd_X2 cI cL cS cH a v_size v_stepCount v_draftCount y_15 v_fault v_stacked v_tape v_steps v_draft v_stack)) rfl (fun H locs hP hD hS => ?_)
  refine lv_aload_n hx hb dX2_readSum_46 rfl (lv_at hl 1 rfl) ?_
  refine lv_iload_n hx hb dX2_readSum_47 rfl (lv_at hl 2 rfl) ?_
  obtain ⟨w_16, w_17, w_18, w_19, hc_20, hf⟩ := mm_bd4s hf
  refine mm_callVF (q0 := 0) (ci := 2) (rest := []) C0 lk_X2_76 (ctX2_readProduct (a := a) (d := d - 1) hgo hE (by omega) hc_20) (by omega) rfl hl.1 rfl (mm_cat rfl) dX2_readSum_48 hP hD hA hS rfl rfl (fun H locs hP hD hS => ?_)
  refine W.eq (g2 := F0 m 51 ls []) rfl ?_
  refine lv_aload_n hx hb dX2_readSum_51 rfl (lv_at hl 1 rfl) ?_
  refine lv_iload_n hx hb dX2_readSum_52 rfl (lv_at hl 0 rfl) ?_
  obtain ⟨w_21, w_22, hc_23, hf⟩ := mm_bd2s hf
  refine mm_callVF (q0 := 0) (ci := 2) (rest := []) C0 lk_X2_60 (ctX2_note (a := a) (d := d - 1) (by omega) hc_23) (by omega) rfl hl.1 rfl (mm_cat rfl) dX2_readSum_53 hP hD hA hS rfl rfl (fun H locs hP hD hS => ?_)
  refine W.eq (g2 := F0 m 56 ls []) rfl ?_
  obtain ⟨y_24, ey_24⟩ : ∃ z : Int32, z = x2 + (1 : Int32) := ⟨_, rfl⟩
  have hf := mm_nms hf ey_24
  refine lv_iinc (v := y_24) (lv' := [(2, .int y_24), (3, .int r_13), (0, .ref (a 0)), (1, .int x1)]) hx hb dX2_readSum_56 hl (k := 3) rfl (by rw [ey_24]; rfl) (by decide) rfl (fun ls hl => ?_)
  refine lv_goto (tgt := 7) hx hb dX2_readSum_59 (by decide) ?_
  exact hk_7 _ _ _ _ _ _ _ _ H locs ls hf hP hD hS (lv_sub hl [2, 3, 0] rfl)

def fX2_readSum_7 (N : Nat) (go : Int32 → Int32 → Int32 → Int32 → Int32 → List Int32 → List Int32 → Option (Int32 × Int32 × Int32 × List Int32))  : Nat → Int32 → Int32 → Int32 → Int32 → Int32 → Int32 → List Int32 → List Int32 → Option (Int32 × Int32 × Int32 × List Int32)
  | 0 => fun _ _ _ _ _ _ _ _ => none
  | n + 1 => fun x1 x2 v_size v_draftCount v_place v_fault v_tape v_draft =>
    if (120 : Int32) ≤ x2 then
    (some (v_draftCount, v_place, v_fault, v_draft))
    else (mm_bd1 (fX2_meets N (43 : Int32) v_size v_place v_fault v_tape) (fun (r_7 : Bool) =>
    if r_7 = false then
    (mm_bd1 (fX2_meets N (45 : Int32) v_size v_place v_fault v_tape) (fun (r_10 : Bool) =>
    if r_10 = false then
    (some (v_draftCount, v_place, v_fault, v_draft))
    else (fX2_readSum_31 N go (fX2_readSum_7 N go n) x1 x2 v_size v_draftCount v_place v_fault v_tape v_draft)))
    else (fX2_readSum_31 N go (fX2_readSum_7 N go n) x1 x2 v_size v_draftCount v_place v_fault v_tape v_draft)))

set_option maxHeartbeats 4000000 in
set_option maxRecDepth 100000 in
theorem tX2_readSum_7 {p : Program} {l : Launch} {e : Env} {s : State} {m : MethodId} {args : Array Value} {below : List Frame} {meth : Method} {c : Code} {D : va_G} {cI cL cS cH : ClassId} {A : Nat → Prop} {d : Nat} {a : Nat → Nat} {go : Int32 → Int32 → Int32 → Int32 → Int32 → List Int32 → List Int32 → Option (Int32 × Int32 × Int32 × List Int32)} {dgo : Nat} (hgo : ∀ (a : Nat → Nat) (x1 : Int32) (v_size : Int32) (v_stepCount : Int32) (v_draftCount : Int32) (v_place : Int32) (v_fault : Int32) (v_stacked : Int32) (v_tape : List Int32) (v_steps : List Int32) (v_draft : List Int32) (v_stack : List Int32) (w_draftCount : Int32) (w_place : Int32) (w_fault : Int32) (w_draft : List Int32), go x1 v_size v_draftCount v_place v_fault v_tape v_draft = some (w_draftCount, w_place, w_fault, w_draft) → mm_Ct l yX2_readOne cX2_readOne 3 none dgo D (mm_T cI cL cS cH) [.ref (a 0), .int x1] (wd_X2 cI cL cS cH a v_size v_stepCount v_draftCount v_place v_fault v_stacked v_tape v_steps v_draft v_stack) (wd_X2 cI cL cS cH a v_size v_stepCount w_draftCount w_place w_fault v_stacked v_tape v_steps w_draft v_stack) none) (hE : 2 ≤ dgo) (hd : dgo + 2 ≤ d) (C0 : mm_Cx p s m args meth c RX2 cX2_readSum 4 none D (mm_T cI cL cS cH) A) (hA : ∀ q, s.heap.size ≤ q → A q) {v_stepCount : Int32} {v_stacked : Int32} {v_steps : List Int32} {v_stack : List Int32} {w_draftCount : Int32} {w_place : Int32} {w_fault : Int32} {w_draft : List Int32} (N : Nat)  : ∀ (n : Nat), ∀ (x1 : Int32) (x2 : Int32) (v_size : Int32) (v_draftCount : Int32) (v_place : Int32) (v_fault : Int32) (v_tape : List Int32) (v_draft : List Int32) (H : Heap) (locs : List Loc) (ls : Array Slot), fX2_readSum_7 N go n x1 x2 v_size v_draftCount v_place v_fault v_tape v_draft = some (w_draftCount, w_place, w_fault, w_draft) → va_P D mm_cl (wd_X2 cI cL cS cH a v_size v_stepCount v_draftCount v_place v_fault v_stacked v_tape v_steps v_draft v_stack) H → va_D A (wd_X2 cI cL cS cH a v_size v_stepCount v_draftCount v_place v_fault v_stacked v_tape v_steps v_draft v_stack) → va_S A s.heap H locs → lv_has ls 4 [(0, .ref (a 0)), (1, .int x1), (2, .int x2)] → W p l e (mm_rr d) s m args below meth c H locs 0 0 (mm_Z below D A (wd_X2 cI cL cS cH a v_size v_stepCount w_draftCount w_place w_fault v_stacked v_tape v_steps w_draft v_stack) none args s) (F0 m 7 ls []) := by
  obtain ⟨hx, hb, hml, hown, hts, hr, hlocks, hK, hSt⟩ := id C0
  intro n
  induction n with
  | zero =>
    intro x1 x2 v_size v_draftCount v_place v_fault v_tape v_draft H locs ls hf
    cases (show none = some _ from hf)
  | succ n ih =>
    intro x1 x2 v_size v_draftCount v_place v_fault v_tape v_draft H locs ls hf hP hD hS hl
    unfold fX2_readSum_7 at hf
    refine lv_iload_n hx hb dX2_readSum_7 rfl (lv_at hl 2 rfl) ?_
    refine lv_bipush (v := 120) hx hb dX2_readSum_8 (by decide) ?_
    refine lv_icmp_ge (tgt := 62) hx hb dX2_readSum_10 (by decide) (fun c_6 => ?_) (fun c_6 => ?_)
    · have hf := mm_ip hf c_6
      apply mm_sub4 hf
      exact mm_vret C0 hP hD hS dX2_readSum_62
    · have hf := mm_in hf c_6
      refine lv_aload_n hx hb dX2_readSum_13 rfl (lv_at hl 0 rfl) ?_
      refine lv_bipush (v := 43) hx hb dX2_readSum_14 (by decide) ?_
      obtain ⟨r_7, hc_8, hf⟩ := mm_bd1s hf
      refine mm_callVF (q0 := 0) (ci := 2) (rest := []) C0 lk_X2_40 (ctX2_meets (a := a) (d := d - 1) (by omega) hc_8) (by omega) rfl hl.1 rfl (mm_cat rfl) dX2_readSum_16 hP hD hA hS rfl rfl (fun H locs hP hD hS => ?_)
      refine W.eq (g2 := F0 m 19 ls [.int (mm_b r_7)]) rfl ?_
      refine lv_if_ne (tgt := 31) hx hb dX2_readSum_19 (by decide) (fun c_9 => ?_) (fun c_9 => ?_)
      · have hf := mm_in hf (mm_b1 c_9)
        exact tX2_readSum_31 hgo hE hd C0 hA N ih _ _ _ _ _ _ _ _ H locs ls hf hP hD hS (lv_sub hl [0, 1, 2] rfl)
      · have hf := mm_ip hf (mm_b0 c_9)
        refine lv_aload_n hx hb dX2_readSum_22 rfl (lv_at hl 0 rfl) ?_
        refine lv_bipush (v := 45) hx hb dX2_readSum_23 (by decide) ?_
        obtain ⟨r_10, hc_11, hf⟩ := mm_bd1s hf
        refine mm_callVF (q0 := 0) (ci := 2) (rest := []) C0 lk_X2_40 (ctX2_meets (a := a) (d := d - 1) (by omega) hc_11) (by omega) rfl hl.1 rfl (mm_cat rfl) dX2_readSum_25 hP hD hA hS rfl rfl (fun H locs hP hD hS => ?_)
        refine W.eq (g2 := F0 m 28 ls [.int (mm_b r_10)]) rfl ?_
        refine lv_if_eq (tgt := 62) hx hb dX2_readSum_28 (by decide) (fun c_12 => ?_) (fun c_12 => ?_)
        · have hf := mm_ip hf (mm_b0 c_12)
          apply mm_sub4 hf
          exact mm_vret C0 hP hD hS dX2_readSum_62
        · have hf := mm_in hf (mm_b1 c_12)
          exact tX2_readSum_31 hgo hE hd C0 hA N ih _ _ _ _ _ _ _ _ H locs ls hf hP hD hS (lv_sub hl [0, 1, 2] rfl)

def fX2_readSum (N : Nat) (go : Int32 → Int32 → Int32 → Int32 → Int32 → List Int32 → List Int32 → Option (Int32 × Int32 × Int32 × List Int32)) (x1 : Int32) (v_size : Int32) (v_draftCount : Int32) (v_place : Int32) (v_fault : Int32) (v_tape : List Int32) (v_draft : List Int32) : Option (Int32 × Int32 × Int32 × List Int32) :=
    mm_bd4 (fX2_readProduct N go x1 v_size v_draftCount v_place v_fault v_tape v_draft) (fun (w_1 : Int32) (w_2 : Int32) (w_3 : Int32) (w_4 : List Int32) =>
    fX2_readSum_7 N go N x1 (0 : Int32) v_size w_1 w_2 w_3 v_tape w_4)

set_option maxHeartbeats 4000000 in
set_option maxRecDepth 100000 in
theorem ctX2_readSum {l : Launch} {D : va_G} {cI cL cS cH : ClassId} {a : Nat → Nat} {x1 : Int32} {v_size : Int32} {v_stepCount : Int32} {v_draftCount : Int32} {v_place : Int32} {v_fault : Int32} {v_stacked : Int32} {v_tape : List Int32} {v_steps : List Int32} {v_draft : List Int32} {v_stack : List Int32} {w_draftCount : Int32} {w_place : Int32} {w_fault : Int32} {w_draft : List Int32} {N d : Nat} {go : Int32 → Int32 → Int32 → Int32 → Int32 → List Int32 → List Int32 → Option (Int32 × Int32 × Int32 × List Int32)} {dgo : Nat} (hgo : ∀ (a : Nat → Nat) (x1 : Int32) (v_size : Int32) (v_stepCount : Int32) (v_draftCount : Int32) (v_place : Int32) (v_fault : Int32) (v_stacked : Int32) (v_tape : List Int32) (v_steps : List Int32) (v_draft : List Int32) (v_stack : List Int32) (w_draftCount : Int32) (w_place : Int32) (w_fault : Int32) (w_draft : List Int32), go x1 v_size v_draftCount v_place v_fault v_tape v_draft = some (w_draftCount, w_place, w_fault, w_draft) → mm_Ct l yX2_readOne cX2_readOne 3 none dgo D (mm_T cI cL cS cH) [.ref (a 0), .int x1] (wd_X2 cI cL cS cH a v_size v_stepCount v_draftCount v_place v_fault v_stacked v_tape v_steps v_draft v_stack) (wd_X2 cI cL cS cH a v_size v_stepCount w_draftCount w_place w_fault v_stacked v_tape v_steps w_draft v_stack) none) (hE : 2 ≤ dgo) (hd : dgo + 2 ≤ d) (hf : fX2_readSum N go x1 v_size v_draftCount v_place v_fault v_tape v_draft = some (w_draftCount, w_place, w_fault, w_draft)) : mm_Ct l yX2_readSum cX2_readSum 4 none d D (mm_T cI cL cS cH) [.ref (a 0), .int x1] (wd_X2 cI cL cS cH a v_size v_stepCount v_draftCount v_place v_fault v_stacked v_tape v_steps v_draft v_stack) (wd_X2 cI cL cS cH a v_size v_stepCount w_draftCount w_place w_fault v_stacked v_tape v_steps w_draft v_stack) none := by
  refine mm_of (by decide) (Nat.le_of_ble_eq_true rfl) ?_
  intro p e s m args below meth c A H locs ls C0 hP hD hA hS hl
  have C0 : mm_Cx p s m args meth c RX2 cX2_readSum 4 none D (mm_T cI cL cS cH) A := C0
  obtain ⟨hx, hb, hml, hown, hts, hr, hlocks, hK, hSt⟩ := id C0
  have hl : lv_has ls 4 [(0, .ref (a 0)), (1, .int x1)] := hl
  unfold fX2_readSum at hf
  refine lv_aload_n hx hb dX2_readSum_0 rfl (lv_at hl 0 rfl) ?_
  refine lv_iload_n hx hb dX2_readSum_1 rfl (lv_at hl 1 rfl) ?_
  obtain ⟨w_1, w_2, w_3, w_4, hc_5, hf⟩ := mm_bd4s hf
  refine mm_callVF (q0 := 0) (ci := 2) (rest := []) C0 lk_X2_76 (ctX2_readProduct (a := a) (d := d - 1) hgo hE (by omega) hc_5) (by omega) rfl hl.1 rfl (mm_cat rfl) dX2_readSum_2 hP hD hA hS rfl rfl (fun H locs hP hD hS => ?_)
  refine W.eq (g2 := F0 m 5 ls []) rfl ?_
  refine lv_iconst (v := 0) hx hb dX2_readSum_5 (by decide) ?_
  refine lv_istore_n (lv' := [(2, .int (0 : Int32)), (0, .ref (a 0)), (1, .int x1)]) hx hb dX2_readSum_6 rfl hl (by decide) rfl (fun ls hl => ?_)
  exact tX2_readSum_7 hgo hE hd C0 hA N  N _ _ _ _ _ _ _ _ H locs ls hf hP hD hS (lv_sub hl [1, 2, 0] rfl)

theorem nb_dX2_readCompared_0 : bls_w cX2_readCompared [(0, [42]), (1, [27]), (2, [182, 0, 69]), (5, [42]), (6, [16, 60]), (8, [182, 0, 40]), (11, [154, 0, 21]), (14, [42]), (15, [16, 61]), (17, [182, 0, 40]), (20, [154, 0, 12]), (23, [42])] := bls_of (by decide +kernel)
theorem dX2_readCompared_0 : decode cX2_readCompared 0 = .ok (.aload_n 0, 1) := op_42 nb_dX2_readCompared_0.1
theorem dX2_readCompared_1 : decode cX2_readCompared 1 = .ok (.iload_n 1, 1) := op_27 nb_dX2_readCompared_0.2.1
set_option maxRecDepth 100000 in
theorem dX2_readCompared_2 : decode cX2_readCompared 2 = .ok (.invokevirtual 69, 3) := (op_182 nb_dX2_readCompared_0.2.2.1).trans rfl
theorem dX2_readCompared_5 : decode cX2_readCompared 5 = .ok (.aload_n 0, 1) := op_42 nb_dX2_readCompared_0.2.2.2.1
set_option maxRecDepth 100000 in
theorem dX2_readCompared_6 : decode cX2_readCompared 6 = .ok (.bipush 60, 2) := (op_16 nb_dX2_readCompared_0.2.2.2.2.1).trans rfl
set_option maxRecDepth 100000 in
theorem dX2_readCompared_8 : decode cX2_readCompared 8 = .ok (.invokevirtual 40, 3) := (op_182 nb_dX2_readCompared_0.2.2.2.2.2.1).trans rfl
set_option maxRecDepth 100000 in
theorem dX2_readCompared_11 : decode cX2_readCompared 11 = .ok (.ifCond .ne 21, 3) := (op_154 nb_dX2_readCompared_0.2.2.2.2.2.2.1).trans rfl
theorem dX2_readCompared_14 : decode cX2_readCompared 14 = .ok (.aload_n 0, 1) := op_42 nb_dX2_readCompared_0.2.2.2.2.2.2.2.1
set_option maxRecDepth 100000 in
theorem dX2_readCompared_15 : decode cX2_readCompared 15 = .ok (.bipush 61, 2) := (op_16 nb_dX2_readCompared_0.2.2.2.2.2.2.2.2.1).trans rfl
set_option maxRecDepth 100000 in
theorem dX2_readCompared_17 : decode cX2_readCompared 17 = .ok (.invokevirtual 40, 3) := (op_182 nb_dX2_readCompared_0.2.2.2.2.2.2.2.2.2.1).trans rfl
set_option maxRecDepth 100000 in
theorem dX2_readCompared_20 : decode cX2_readCompared 20 = .ok (.ifCond .ne 12, 3) := (op_154 nb_dX2_readCompared_0.2.2.2.2.2.2.2.2.2.2.1).trans rfl
theorem dX2_readCompared_23 : decode cX2_readCompared 23 = .ok (.aload_n 0, 1) := op_42 nb_dX2_readCompared_0.2.2.2.2.2.2.2.2.2.2.2.1
theorem nb_dX2_readCompared_24 : bls_w cX2_readCompared [(24, [16, 62]), (26, [182, 0, 40]), (29, [153, 0, 28]), (32, [42]), (33, [182, 0, 72]), (36, [61]), (37, [42]), (38, [89]), (39, [180, 0, 28]), (42, [4]), (43, [96]), (44, [181, 0, 28])] := bls_of (by decide +kernel)
set_option maxRecDepth 100000 in
theorem dX2_readCompared_24 : decode cX2_readCompared 24 = .ok (.bipush 62, 2) := (op_16 nb_dX2_readCompared_24.1).trans rfl
set_option maxRecDepth 100000 in
theorem dX2_readCompared_26 : decode cX2_readCompared 26 = .ok (.invokevirtual 40, 3) := (op_182 nb_dX2_readCompared_24.2.1).trans rfl
set_option maxRecDepth 100000 in
theorem dX2_readCompared_29 : decode cX2_readCompared 29 = .ok (.ifCond .eq 28, 3) := (op_153 nb_dX2_readCompared_24.2.2.1).trans rfl
theorem dX2_readCompared_32 : decode cX2_readCompared 32 = .ok (.aload_n 0, 1) := op_42 nb_dX2_readCompared_24.2.2.2.1
set_option maxRecDepth 100000 in
theorem dX2_readCompared_33 : decode cX2_readCompared 33 = .ok (.invokevirtual 72, 3) := (op_182 nb_dX2_readCompared_24.2.2.2.2.1).trans rfl
theorem dX2_readCompared_36 : decode cX2_readCompared 36 = .ok (.istore_n 2, 1) := op_61 nb_dX2_readCompared_24.2.2.2.2.2.1
theorem dX2_readCompared_37 : decode cX2_readCompared 37 = .ok (.aload_n 0, 1) := op_42 nb_dX2_readCompared_24.2.2.2.2.2.2.1
theorem dX2_readCompared_38 : decode cX2_readCompared 38 = .ok (.dup, 1) := op_89 nb_dX2_readCompared_24.2.2.2.2.2.2.2.1
set_option maxRecDepth 100000 in
theorem dX2_readCompared_39 : decode cX2_readCompared 39 = .ok (.getfield 28, 3) := (op_180 nb_dX2_readCompared_24.2.2.2.2.2.2.2.2.1).trans rfl
theorem dX2_readCompared_42 : decode cX2_readCompared 42 = .ok (.iconst 1, 1) := op_4 nb_dX2_readCompared_24.2.2.2.2.2.2.2.2.2.1
theorem dX2_readCompared_43 : decode cX2_readCompared 43 = .ok (.iadd, 1) := op_96 nb_dX2_readCompared_24.2.2.2.2.2.2.2.2.2.2.1
set_option maxRecDepth 100000 in
theorem dX2_readCompared_44 : decode cX2_readCompared 44 = .ok (.putfield 28, 3) := (op_181 nb_dX2_readCompared_24.2.2.2.2.2.2.2.2.2.2.2.1).trans rfl
theorem nb_dX2_readCompared_47 : bls_w cX2_readCompared [(47, [42]), (48, [27]), (49, [182, 0, 69]), (52, [42]), (53, [28]), (54, [182, 0, 60]), (57, [177])] := bls_of (by decide +kernel)
theorem dX2_readCompared_47 : decode cX2_readCompared 47 = .ok (.aload_n 0, 1) := op_42 nb_dX2_readCompared_47.1
theorem dX2_readCompared_48 : decode cX2_readCompared 48 = .ok (.iload_n 1, 1) := op_27 nb_dX2_readCompared_47.2.1
set_option maxRecDepth 100000 in
theorem dX2_readCompared_49 : decode cX2_readCompared 49 = .ok (.invokevirtual 69, 3) := (op_182 nb_dX2_readCompared_47.2.2.1).trans rfl
theorem dX2_readCompared_52 : decode cX2_readCompared 52 = .ok (.aload_n 0, 1) := op_42 nb_dX2_readCompared_47.2.2.2.1
theorem dX2_readCompared_53 : decode cX2_readCompared 53 = .ok (.iload_n 2, 1) := op_28 nb_dX2_readCompared_47.2.2.2.2.1
set_option maxRecDepth 100000 in
theorem dX2_readCompared_54 : decode cX2_readCompared 54 = .ok (.invokevirtual 60, 3) := (op_182 nb_dX2_readCompared_47.2.2.2.2.2.1).trans rfl
theorem dX2_readCompared_57 : decode cX2_readCompared 57 = .ok (.return_, 1) := op_177 nb_dX2_readCompared_47.2.2.2.2.2.2.1
def fX2_readCompared_32 (N : Nat) (go : Int32 → Int32 → Int32 → Int32 → Int32 → List Int32 → List Int32 → Option (Int32 × Int32 × Int32 × List Int32))  (x1 : Int32) (v_size : Int32) (v_draftCount : Int32) (v_place : Int32) (v_fault : Int32) (v_tape : List Int32) (v_draft : List Int32) : Option (Int32 × Int32 × Int32 × List Int32) :=
    mm_bd1 (fX2_next N v_size v_place v_tape) (fun (r_15 : Int32) =>
    mm_nm ((v_place + (1 : Int32))) (fun (y_17 : Int32) =>
    mm_bd4 (fX2_readSum N go x1 v_size v_draftCount y_17 v_fault v_tape v_draft) (fun (w_18 : Int32) (w_19 : Int32) (w_20 : Int32) (w_21 : List Int32) =>
    mm_bd2 (fX2_note N r_15 w_18 w_21) (fun (w_23 : Int32) (w_24 : List Int32) =>
    some (w_23, w_19, w_20, w_24)))))

set_option maxHeartbeats 4000000 in
set_option maxRecDepth 100000 in
theorem tX2_readCompared_32 {p : Program} {l : Launch} {e : Env} {s : State} {m : MethodId} {args : Array Value} {below : List Frame} {meth : Method} {c : Code} {D : va_G} {cI cL cS cH : ClassId} {A : Nat → Prop} {d : Nat} {a : Nat → Nat} {go : Int32 → Int32 → Int32 → Int32 → Int32 → List Int32 → List Int32 → Option (Int32 × Int32 × Int32 × List Int32)} {dgo : Nat} (hgo : ∀ (a : Nat → Nat) (x1 : Int32) (v_size : Int32) (v_stepCount : Int32) (v_draftCount : Int32) (v_place : Int32) (v_fault : Int32) (v_stacked : Int32) (v_tape : List Int32) (v_steps : List Int32) (v_draft : List Int32) (v_stack : List Int32) (w_draftCount : Int32) (w_place : Int32) (w_fault : Int32) (w_draft : List Int32), go x1 v_size v_draftCount v_place v_fault v_tape v_draft = some (w_draftCount, w_place, w_fault, w_draft) → mm_Ct l yX2_readOne cX2_readOne 3 none dgo D (mm_T cI cL cS cH) [.ref (a 0), .int x1] (wd_X2 cI cL cS cH a v_size v_stepCount v_draftCount v_place v_fault v_stacked v_tape v_steps v_draft v_stack) (wd_X2 cI cL cS cH a v_size v_stepCount w_draftCount w_place w_fault v_stacked v_tape v_steps w_draft v_stack) none) (hE : 2 ≤ dgo) (hd : dgo + 3 ≤ d) (C0 : mm_Cx p s m args meth c RX2 cX2_readCompared 3 none D (mm_T cI cL cS cH) A) (hA : ∀ q, s.heap.size ≤ q → A q) {v_stepCount : Int32} {v_stacked : Int32} {v_steps : List Int32} {v_stack : List Int32} {w_draftCount : Int32} {w_place : Int32} {w_fault : Int32} {w_draft : List Int32} (N : Nat)  : ∀ (x1 : Int32) (v_size : Int32) (v_draftCount : Int32) (v_place : Int32) (v_fault : Int32) (v_tape : List Int32) (v_draft : List Int32) (H : Heap) (locs : List Loc) (ls : Array Slot), fX2_readCompared_32 N go x1 v_size v_draftCount v_place v_fault v_tape v_draft = some (w_draftCount, w_place, w_fault, w_draft) → va_P D mm_cl (wd_X2 cI cL cS cH a v_size v_stepCount v_draftCount v_place v_fault v_stacked v_tape v_steps v_draft v_stack) H → va_D A (wd_X2 cI cL cS cH a v_size v_stepCount v_draftCount v_place v_fault v_stacked v_tape v_steps v_draft v_stack) → va_S A s.heap H locs → lv_has ls 3 [(0, .ref (a 0)), (1, .int x1)] → W p l e (mm_rr d) s m args below meth c H locs 0 0 (mm_Z below D A (wd_X2 cI cL cS cH a v_size v_stepCount w_draftCount w_place w_fault v_stacked v_tape v_steps w_draft v_stack) none args s) (F0 m 32 ls []) := by
  obtain ⟨hx, hb, hml, hown, hts, hr, hlocks, hK, hSt⟩ := id C0
  intro x1 v_size v_draftCount v_place v_fault v_tape v_draft H locs ls hf hP hD hS hl
  unfold fX2_readCompared_32 at hf
  refine lv_aload_n hx hb dX2_readCompared_32 rfl (lv_at hl 0 rfl) ?_
  obtain ⟨r_15, hc_16, hf⟩ := mm_bd1s hf
  refine mm_callVF (q0 := 0) (ci := 2) (rest := []) C0 lk_X2_72 (ctX2_next (a := a) (d := d - 1) (by omega) hc_16) (by omega) rfl hl.1 rfl (mm_cat rfl) dX2_readCompared_33 hP hD hA hS rfl rfl (fun H locs hP hD hS => ?_)
  refine W.eq (g2 := F0 m 36 ls [.int r_15]) rfl ?_
  refine lv_istore_n (lv' := [(2, .int r_15), (0, .ref (a 0)), (1, .int x1)]) hx hb dX2_readCompared_36 rfl hl (by decide) rfl (fun ls hl => ?_)
  refine lv_aload_n hx hb dX2_readCompared_37 rfl (lv_at hl 1 rfl) ?_
  refine lv_dup hx hb dX2_readCompared_38 rfl ?_
  refine mm_get C0 hP iw_X2 0 rfl rfl 6 (by decide) fl_X2_28 rfl dX2_readCompared_39 ?_
  refine lv_iconst (v := 1) hx hb dX2_readCompared_42 (by decide) ?_
  refine lv_iadd hx hb dX2_readCompared_43 ?_
  refine lv_topi (fun y_17 ey_17 => ?_)
  have hf := mm_nms hf ey_17
  refine mm_put C0 hP hD hS iw_X2 tyX2 tyX2_ok nmX2 0 rfl rfl 6 (by decide) fl_X2_28 rfl rfl rfl (Nat.le_of_ble_eq_true rfl) dX2_readCompared_44 (w2 := (wd_X2 cI cL cS cH a v_size v_stepCount v_draftCount y_17 v_fault v_stacked v_tape v_steps v_draft v_stack)) rfl (fun H locs hP hD hS => ?_)
  refine lv_aload_n hx hb dX2_readCompared_47 rfl (lv_at hl 1 rfl) ?_
  refine lv_iload_n hx hb dX2_readCompared_48 rfl (lv_at hl 2 rfl) ?_
  obtain ⟨w_18, w_19, w_20, w_21, hc_22, hf⟩ := mm_bd4s hf
  refine mm_callVF (q0 := 0) (ci := 2) (rest := []) C0 lk_X2_69 (ctX2_readSum (a := a) (d := d - 1) hgo hE (by omega) hc_22) (by omega) rfl hl.1 rfl (mm_cat rfl) dX2_readCompared_49 hP hD hA hS rfl rfl (fun H locs hP hD hS => ?_)
  refine W.eq (g2 := F0 m 52 ls []) rfl ?_
  refine lv_aload_n hx hb dX2_readCompared_52 rfl (lv_at hl 1 rfl) ?_
  refine lv_iload_n hx hb dX2_readCompared_53 rfl (lv_at hl 0 rfl) ?_
  obtain ⟨w_23, w_24, hc_25, hf⟩ := mm_bd2s hf
  refine mm_callVF (q0 := 0) (ci := 2) (rest := []) C0 lk_X2_60 (ctX2_note (a := a) (d := d - 1) (by omega) hc_25) (by omega) rfl hl.1 rfl (mm_cat rfl) dX2_readCompared_54 hP hD hA hS rfl rfl (fun H locs hP hD hS => ?_)
  refine W.eq (g2 := F0 m 57 ls []) rfl ?_
  apply mm_sub4 hf
  exact mm_vret C0 hP hD hS dX2_readCompared_57

def fX2_readCompared (N : Nat) (go : Int32 → Int32 → Int32 → Int32 → Int32 → List Int32 → List Int32 → Option (Int32 × Int32 × Int32 × List Int32)) (x1 : Int32) (v_size : Int32) (v_draftCount : Int32) (v_place : Int32) (v_fault : Int32) (v_tape : List Int32) (v_draft : List Int32) : Option (Int32 × Int32 × Int32 × List Int32) :=
    mm_bd4 (fX2_readSum N go x1 v_size v_draftCount v_place v_fault v_tape v_draft) (fun (w_1 : Int32) (w_2 : Int32) (w_3 : Int32) (w_4 : List Int32) =>
    mm_bd1 (fX2_meets N (60 : Int32) v_size w_2 w_3 v_tape) (fun (r_6 : Bool) =>
    if r_6 = false then
    (mm_bd1 (fX2_meets N (61 : Int32) v_size w_2 w_3 v_tape) (fun (r_9 : Bool) =>
    if r_9 = false then
    (mm_bd1 (fX2_meets N (62 : Int32) v_size w_2 w_3 v_tape) (fun (r_12 : Bool) =>
    if r_12 = false then
    (some (w_1, w_2, w_3, w_4))
    else (fX2_readCompared_32 N go x1 v_size w_1 w_2 w_3 v_tape w_4)))
    else (fX2_readCompared_32 N go x1 v_size w_1 w_2 w_3 v_tape w_4)))
    else (fX2_readCompared_32 N go x1 v_size w_1 w_2 w_3 v_tape w_4)))

set_option maxHeartbeats 4000000 in
set_option maxRecDepth 100000 in
theorem ctX2_readCompared {l : Launch} {D : va_G} {cI cL cS cH : ClassId} {a : Nat → Nat} {x1 : Int32} {v_size : Int32} {v_stepCount : Int32} {v_draftCount : Int32} {v_place : Int32} {v_fault : Int32} {v_stacked : Int32} {v_tape : List Int32} {v_steps : List Int32} {v_draft : List Int32} {v_stack : List Int32} {w_draftCount : Int32} {w_place : Int32} {w_fault : Int32} {w_draft : List Int32} {N d : Nat} {go : Int32 → Int32 → Int32 → Int32 → Int32 → List Int32 → List Int32 → Option (Int32 × Int32 × Int32 × List Int32)} {dgo : Nat} (hgo : ∀ (a : Nat → Nat) (x1 : Int32) (v_size : Int32) (v_stepCount : Int32) (v_draftCount : Int32) (v_place : Int32) (v_fault : Int32) (v_stacked : Int32) (v_tape : List Int32) (v_steps : List Int32) (v_draft : List Int32) (v_stack : List Int32) (w_draftCount : Int32) (w_place : Int32) (w_fault : Int32) (w_draft : List Int32), go x1 v_size v_draftCount v_place v_fault v_tape v_draft = some (w_draftCount, w_place, w_fault, w_draft) → mm_Ct l yX2_readOne cX2_readOne 3 none dgo D (mm_T cI cL cS cH) [.ref (a 0), .int x1] (wd_X2 cI cL cS cH a v_size v_stepCount v_draftCount v_place v_fault v_stacked v_tape v_steps v_draft v_stack) (wd_X2 cI cL cS cH a v_size v_stepCount w_draftCount w_place w_fault v_stacked v_tape v_steps w_draft v_stack) none) (hE : 2 ≤ dgo) (hd : dgo + 3 ≤ d) (hf : fX2_readCompared N go x1 v_size v_draftCount v_place v_fault v_tape v_draft = some (w_draftCount, w_place, w_fault, w_draft)) : mm_Ct l yX2_readCompared cX2_readCompared 3 none d D (mm_T cI cL cS cH) [.ref (a 0), .int x1] (wd_X2 cI cL cS cH a v_size v_stepCount v_draftCount v_place v_fault v_stacked v_tape v_steps v_draft v_stack) (wd_X2 cI cL cS cH a v_size v_stepCount w_draftCount w_place w_fault v_stacked v_tape v_steps w_draft v_stack) none := by
  refine mm_of (by decide) (Nat.le_of_ble_eq_true rfl) ?_
  intro p e s m args below meth c A H locs ls C0 hP hD hA hS hl
  have C0 : mm_Cx p s m args meth c RX2 cX2_readCompared 3 none D (mm_T cI cL cS cH) A := C0
  obtain ⟨hx, hb, hml, hown, hts, hr, hlocks, hK, hSt⟩ := id C0
  have hl : lv_has ls 3 [(0, .ref (a 0)), (1, .int x1)] := hl
  unfold fX2_readCompared at hf
  refine lv_aload_n hx hb dX2_readCompared_0 rfl (lv_at hl 0 rfl) ?_
  refine lv_iload_n hx hb dX2_readCompared_1 rfl (lv_at hl 1 rfl) ?_
  obtain ⟨w_1, w_2, w_3, w_4, hc_5, hf⟩ := mm_bd4s hf
  refine mm_callVF (q0 := 0) (ci := 2) (rest := []) C0 lk_X2_69 (ctX2_readSum (a := a) (d := d - 1) hgo hE (by omega) hc_5) (by omega) rfl hl.1 rfl (mm_cat rfl) dX2_readCompared_2 hP hD hA hS rfl rfl (fun H locs hP hD hS => ?_)
  refine W.eq (g2 := F0 m 5 ls []) rfl ?_
  refine lv_aload_n hx hb dX2_readCompared_5 rfl (lv_at hl 0 rfl) ?_
  refine lv_bipush (v := 60) hx hb dX2_readCompared_6 (by decide) ?_
  obtain ⟨r_6, hc_7, hf⟩ := mm_bd1s hf
  refine mm_callVF (q0 := 0) (ci := 2) (rest := []) C0 lk_X2_40 (ctX2_meets (a := a) (d := d - 1) (by omega) hc_7) (by omega) rfl hl.1 rfl (mm_cat rfl) dX2_readCompared_8 hP hD hA hS rfl rfl (fun H locs hP hD hS => ?_)
  refine W.eq (g2 := F0 m 11 ls [.int (mm_b r_6)]) rfl ?_
  refine lv_if_ne (tgt := 32) hx hb dX2_readCompared_11 (by decide) (fun c_8 => ?_) (fun c_8 => ?_)
  · have hf := mm_in hf (mm_b1 c_8)
    exact tX2_readCompared_32 hgo hE hd C0 hA N  _ _ _ _ _ _ _ H locs ls hf hP hD hS (lv_sub hl [0, 1] rfl)
  · have hf := mm_ip hf (mm_b0 c_8)
    refine lv_aload_n hx hb dX2_readCompared_14 rfl (lv_at hl 0 rfl) ?_
    refine lv_bipush (v := 61) hx hb dX2_readCompared_15 (by decide) ?_
    obtain ⟨r_9, hc_10, hf⟩ := mm_bd1s hf
    refine mm_callVF (q0 := 0) (ci := 2) (rest := []) C0 lk_X2_40 (ctX2_meets (a := a) (d := d - 1) (by omega) hc_10) (by omega) rfl hl.1 rfl (mm_cat rfl) dX2_readCompared_17 hP hD hA hS rfl rfl (fun H locs hP hD hS => ?_)
    refine W.eq (g2 := F0 m 20 ls [.int (mm_b r_9)]) rfl ?_
    refine lv_if_ne (tgt := 32) hx hb dX2_readCompared_20 (by decide) (fun c_11 => ?_) (fun c_11 => ?_)
    · have hf := mm_in hf (mm_b1 c_11)
      exact tX2_readCompared_32 hgo hE hd C0 hA N  _ _ _ _ _ _ _ H locs ls hf hP hD hS (lv_sub hl [0, 1] rfl)
    · have hf := mm_ip hf (mm_b0 c_11)
      refine lv_aload_n hx hb dX2_readCompared_23 rfl (lv_at hl 0 rfl) ?_
      refine lv_bipush (v := 62) hx hb dX2_readCompared_24 (by decide) ?_
      obtain ⟨r_12, hc_13, hf⟩ := mm_bd1s hf
      refine mm_callVF (q0 := 0) (ci := 2) (rest := []) C0 lk_X2_40 (ctX2_meets (a := a) (d := d - 1) (by omega) hc_13) (by omega) rfl hl.1 rfl (mm_cat rfl) dX2_readCompared_26 hP hD hA hS rfl rfl (fun H locs hP hD hS => ?_)
      refine W.eq (g2 := F0 m 29 ls [.int (mm_b r_12)]) rfl ?_
      refine lv_if_eq (tgt := 57) hx hb dX2_readCompared_29 (by decide) (fun c_14 => ?_) (fun c_14 => ?_)
      · have hf := mm_ip hf (mm_b0 c_14)
        apply mm_sub4 hf
        exact mm_vret C0 hP hD hS dX2_readCompared_57
      · have hf := mm_in hf (mm_b1 c_14)
        exact tX2_readCompared_32 hgo hE hd C0 hA N  _ _ _ _ _ _ _ H locs ls hf hP hD hS (lv_sub hl [0, 1] rfl)

theorem nb_dX2_readBoth_0 : bls_w cX2_readBoth [(0, [42]), (1, [27]), (2, [182, 0, 66]), (5, [3]), (6, [61]), (7, [28]), (8, [16, 120]), (10, [162, 0, 39]), (13, [42]), (14, [16, 38]), (16, [182, 0, 40]), (19, [153, 0, 30])] := bls_of (by decide +kernel)
theorem dX2_readBoth_0 : decode cX2_readBoth 0 = .ok (.aload_n 0, 1) := op_42 nb_dX2_readBoth_0.1
theorem dX2_readBoth_1 : decode cX2_readBoth 1 = .ok (.iload_n 1, 1) := op_27 nb_dX2_readBoth_0.2.1
set_option maxRecDepth 100000 in
theorem dX2_readBoth_2 : decode cX2_readBoth 2 = .ok (.invokevirtual 66, 3) := (op_182 nb_dX2_readBoth_0.2.2.1).trans rfl
theorem dX2_readBoth_5 : decode cX2_readBoth 5 = .ok (.iconst 0, 1) := op_3 nb_dX2_readBoth_0.2.2.2.1
theorem dX2_readBoth_6 : decode cX2_readBoth 6 = .ok (.istore_n 2, 1) := op_61 nb_dX2_readBoth_0.2.2.2.2.1
theorem dX2_readBoth_7 : decode cX2_readBoth 7 = .ok (.iload_n 2, 1) := op_28 nb_dX2_readBoth_0.2.2.2.2.2.1
set_option maxRecDepth 100000 in
theorem dX2_readBoth_8 : decode cX2_readBoth 8 = .ok (.bipush 120, 2) := (op_16 nb_dX2_readBoth_0.2.2.2.2.2.2.1).trans rfl
set_option maxRecDepth 100000 in
theorem dX2_readBoth_10 : decode cX2_readBoth 10 = .ok (.if_icmp .ge 39, 3) := (op_162 nb_dX2_readBoth_0.2.2.2.2.2.2.2.1).trans rfl
theorem dX2_readBoth_13 : decode cX2_readBoth 13 = .ok (.aload_n 0, 1) := op_42 nb_dX2_readBoth_0.2.2.2.2.2.2.2.2.1
set_option maxRecDepth 100000 in
theorem dX2_readBoth_14 : decode cX2_readBoth 14 = .ok (.bipush 38, 2) := (op_16 nb_dX2_readBoth_0.2.2.2.2.2.2.2.2.2.1).trans rfl
set_option maxRecDepth 100000 in
theorem dX2_readBoth_16 : decode cX2_readBoth 16 = .ok (.invokevirtual 40, 3) := (op_182 nb_dX2_readBoth_0.2.2.2.2.2.2.2.2.2.2.1).trans rfl
set_option maxRecDepth 100000 in
theorem dX2_readBoth_19 : decode cX2_readBoth 19 = .ok (.ifCond .eq 30, 3) := (op_153 nb_dX2_readBoth_0.2.2.2.2.2.2.2.2.2.2.2.1).trans rfl
theorem nb_dX2_readBoth_22 : bls_w cX2_readBoth [(22, [42]), (23, [89]), (24, [180, 0, 28]), (27, [4]), (28, [96]), (29, [181, 0, 28]), (32, [42]), (33, [27]), (34, [182, 0, 66]), (37, [42]), (38, [16, 38]), (40, [182, 0, 60])] := bls_of (by decide +kernel)
theorem dX2_readBoth_22 : decode cX2_readBoth 22 = .ok (.aload_n 0, 1) := op_42 nb_dX2_readBoth_22.1
theorem dX2_readBoth_23 : decode cX2_readBoth 23 = .ok (.dup, 1) := op_89 nb_dX2_readBoth_22.2.1
set_option maxRecDepth 100000 in
theorem dX2_readBoth_24 : decode cX2_readBoth 24 = .ok (.getfield 28, 3) := (op_180 nb_dX2_readBoth_22.2.2.1).trans rfl
theorem dX2_readBoth_27 : decode cX2_readBoth 27 = .ok (.iconst 1, 1) := op_4 nb_dX2_readBoth_22.2.2.2.1
theorem dX2_readBoth_28 : decode cX2_readBoth 28 = .ok (.iadd, 1) := op_96 nb_dX2_readBoth_22.2.2.2.2.1
set_option maxRecDepth 100000 in
theorem dX2_readBoth_29 : decode cX2_readBoth 29 = .ok (.putfield 28, 3) := (op_181 nb_dX2_readBoth_22.2.2.2.2.2.1).trans rfl
theorem dX2_readBoth_32 : decode cX2_readBoth 32 = .ok (.aload_n 0, 1) := op_42 nb_dX2_readBoth_22.2.2.2.2.2.2.1
theorem dX2_readBoth_33 : decode cX2_readBoth 33 = .ok (.iload_n 1, 1) := op_27 nb_dX2_readBoth_22.2.2.2.2.2.2.2.1
set_option maxRecDepth 100000 in
theorem dX2_readBoth_34 : decode cX2_readBoth 34 = .ok (.invokevirtual 66, 3) := (op_182 nb_dX2_readBoth_22.2.2.2.2.2.2.2.2.1).trans rfl
theorem dX2_readBoth_37 : decode cX2_readBoth 37 = .ok (.aload_n 0, 1) := op_42 nb_dX2_readBoth_22.2.2.2.2.2.2.2.2.2.1
set_option maxRecDepth 100000 in
theorem dX2_readBoth_38 : decode cX2_readBoth 38 = .ok (.bipush 38, 2) := (op_16 nb_dX2_readBoth_22.2.2.2.2.2.2.2.2.2.2.1).trans rfl
set_option maxRecDepth 100000 in
theorem dX2_readBoth_40 : decode cX2_readBoth 40 = .ok (.invokevirtual 60, 3) := (op_182 nb_dX2_readBoth_22.2.2.2.2.2.2.2.2.2.2.2.1).trans rfl
theorem nb_dX2_readBoth_43 : bls_w cX2_readBoth [(43, [132, 2, 1]), (46, [167, 255, 217]), (49, [177])] := bls_of (by decide +kernel)
set_option maxRecDepth 100000 in
theorem dX2_readBoth_43 : decode cX2_readBoth 43 = .ok (.iinc 2 1, 3) := (op_132 nb_dX2_readBoth_43.1).trans rfl
set_option maxRecDepth 100000 in
theorem dX2_readBoth_46 : decode cX2_readBoth 46 = .ok (.goto (-39), 3) := (op_167 nb_dX2_readBoth_43.2.1).trans rfl
theorem dX2_readBoth_49 : decode cX2_readBoth 49 = .ok (.return_, 1) := op_177 nb_dX2_readBoth_43.2.2.1
def fX2_readBoth_7 (N : Nat) (go : Int32 → Int32 → Int32 → Int32 → Int32 → List Int32 → List Int32 → Option (Int32 × Int32 × Int32 × List Int32))  : Nat → Int32 → Int32 → Int32 → Int32 → Int32 → Int32 → List Int32 → List Int32 → Option (Int32 × Int32 × Int32 × List Int32)
  | 0 => fun _ _ _ _ _ _ _ _ => none
  | n + 1 => fun x1 x2 v_size v_draftCount v_place v_fault v_tape v_draft =>
    if (120 : Int32) ≤ x2 then
    (some (v_draftCount, v_place, v_fault, v_draft))
    else (mm_bd1 (fX2_meets N (38 : Int32) v_size v_place v_fault v_tape) (fun (r_7 : Bool) =>
    if r_7 = false then
    (some (v_draftCount, v_place, v_fault, v_draft))
    else (mm_nm ((v_place + (1 : Int32))) (fun (y_10 : Int32) =>
    mm_bd4 (fX2_readCompared N go x1 v_size v_draftCount y_10 v_fault v_tape v_draft) (fun (w_11 : Int32) (w_12 : Int32) (w_13 : Int32) (w_14 : List Int32) =>
    mm_bd2 (fX2_note N (38 : Int32) w_11 w_14) (fun (w_16 : Int32) (w_17 : List Int32) =>
    mm_nm (x2 + (1 : Int32)) (fun (y_19 : Int32) =>
    fX2_readBoth_7 N go n x1 y_19 v_size w_16 w_12 w_13 v_tape w_17)))))))

set_option maxHeartbeats 4000000 in
set_option maxRecDepth 100000 in
theorem tX2_readBoth_7 {p : Program} {l : Launch} {e : Env} {s : State} {m : MethodId} {args : Array Value} {below : List Frame} {meth : Method} {c : Code} {D : va_G} {cI cL cS cH : ClassId} {A : Nat → Prop} {d : Nat} {a : Nat → Nat} {go : Int32 → Int32 → Int32 → Int32 → Int32 → List Int32 → List Int32 → Option (Int32 × Int32 × Int32 × List Int32)} {dgo : Nat} (hgo : ∀ (a : Nat → Nat) (x1 : Int32) (v_size : Int32) (v_stepCount : Int32) (v_draftCount : Int32) (v_place : Int32) (v_fault : Int32) (v_stacked : Int32) (v_tape : List Int32) (v_steps : List Int32) (v_draft : List Int32) (v_stack : List Int32) (w_draftCount : Int32) (w_place : Int32) (w_fault : Int32) (w_draft : List Int32), go x1 v_size v_draftCount v_place v_fault v_tape v_draft = some (w_draftCount, w_place, w_fault, w_draft) → mm_Ct l yX2_readOne cX2_readOne 3 none dgo D (mm_T cI cL cS cH) [.ref (a 0), .int x1] (wd_X2 cI cL cS cH a v_size v_stepCount v_draftCount v_place v_fault v_stacked v_tape v_steps v_draft v_stack) (wd_X2 cI cL cS cH a v_size v_stepCount w_draftCount w_place w_fault v_stacked v_tape v_steps w_draft v_stack) none) (hE : 2 ≤ dgo) (hd : dgo + 4 ≤ d) (C0 : mm_Cx p s m args meth c RX2 cX2_readBoth 3 none D (mm_T cI cL cS cH) A) (hA : ∀ q, s.heap.size ≤ q → A q) {v_stepCount : Int32} {v_stacked : Int32} {v_steps : List Int32} {v_stack : List Int32} {w_draftCount : Int32} {w_place : Int32} {w_fault : Int32} {w_draft : List Int32} (N : Nat)  : ∀ (n : Nat), ∀ (x1 : Int32) (x2 : Int32) (v_size : Int32) (v_draftCount : Int32) (v_place : Int32) (v_fault : Int32) (v_tape : List Int32) (v_draft : List Int32) (H : Heap) (locs : List Loc) (ls : Array Slot), fX2_readBoth_7 N go n x1 x2 v_size v_draftCount v_place v_fault v_tape v_draft = some (w_draftCount, w_place, w_fault, w_draft) → va_P D mm_cl (wd_X2 cI cL cS cH a v_size v_stepCount v_draftCount v_place v_fault v_stacked v_tape v_steps v_draft v_stack) H → va_D A (wd_X2 cI cL cS cH a v_size v_stepCount v_draftCount v_place v_fault v_stacked v_tape v_steps v_draft v_stack) → va_S A s.heap H locs → lv_has ls 3 [(0, .ref (a 0)), (1, .int x1), (2, .int x2)] → W p l e (mm_rr d) s m args below meth c H locs 0 0 (mm_Z below D A (wd_X2 cI cL cS cH a v_size v_stepCount w_draftCount w_place w_fault v_stacked v_tape v_steps w_draft v_stack) none args s) (F0 m 7 ls []) := by
  obtain ⟨hx, hb, hml, hown, hts, hr, hlocks, hK, hSt⟩ := id C0
  intro n
  induction n with
  | zero =>
    intro x1 x2 v_size v_draftCount v_place v_fault v_tape v_draft H locs ls hf
    cases (show none = some _ from hf)
  | succ n ih =>
    intro x1 x2 v_size v_draftCount v_place v_fault v_tape v_draft H locs ls hf hP hD hS hl
    unfold fX2_readBoth_7 at hf
    refine lv_iload_n hx hb dX2_readBoth_7 rfl (lv_at hl 2 rfl) ?_
    refine lv_bipush (v := 120) hx hb dX2_readBoth_8 (by decide) ?_
    refine lv_icmp_ge (tgt := 49) hx hb dX2_readBoth_10 (by decide) (fun c_6 => ?_) (fun c_6 => ?_)
    · have hf := mm_ip hf c_6
      apply mm_sub4 hf
      exact mm_vret C0 hP hD hS dX2_readBoth_49
    · have hf := mm_in hf c_6
      refine lv_aload_n hx hb dX2_readBoth_13 rfl (lv_at hl 0 rfl) ?_
      refine lv_bipush (v := 38) hx hb dX2_readBoth_14 (by decide) ?_
      obtain ⟨r_7, hc_8, hf⟩ := mm_bd1s hf
      refine mm_callVF (q0 := 0) (ci := 2) (rest := []) C0 lk_X2_40 (ctX2_meets (a := a) (d := d - 1) (by omega) hc_8) (by omega) rfl hl.1 rfl (mm_cat rfl) dX2_readBoth_16 hP hD hA hS rfl rfl (fun H locs hP hD hS => ?_)
      refine W.eq (g2 := F0 m 19 ls [.int (mm_b r_7)]) rfl ?_
      refine lv_if_eq (tgt := 49) hx hb dX2_readBoth_19 (by decide) (fun c_9 => ?_) (fun c_9 => ?_)
      · have hf := mm_ip hf (mm_b0 c_9)
        apply mm_sub4 hf
        exact mm_vret C0 hP hD hS dX2_readBoth_49
      · have hf := mm_in hf (mm_b1 c_9)
        refine lv_aload_n hx hb dX2_readBoth_22 rfl (lv_at hl 0 rfl) ?_
        refine lv_dup hx hb dX2_readBoth_23 rfl ?_
        refine mm_get C0 hP iw_X2 0 rfl rfl 6 (by decide) fl_X2_28 rfl dX2_readBoth_24 ?_
        refine lv_iconst (v := 1) hx hb dX2_readBoth_27 (by decide) ?_
        refine lv_iadd hx hb dX2_readBoth_28 ?_
        refine lv_topi (fun y_10 ey_10 => ?_)
        have hf := mm_nms hf ey_10
        refine mm_put C0 hP hD hS iw_X2 tyX2 tyX2_ok nmX2 0 rfl rfl 6 (by decide) fl_X2_28 rfl rfl rfl (Nat.le_of_ble_eq_true rfl) dX2_readBoth_29 (w2 := (wd_X2 cI cL cS cH a v_size v_stepCount v_draftCount y_10 v_fault v_stacked v_tape v_steps v_draft v_stack)) rfl (fun H locs hP hD hS => ?_)
        refine lv_aload_n hx hb dX2_readBoth_32 rfl (lv_at hl 0 rfl) ?_
        refine lv_iload_n hx hb dX2_readBoth_33 rfl (lv_at hl 1 rfl) ?_
        obtain ⟨w_11, w_12, w_13, w_14, hc_15, hf⟩ := mm_bd4s hf
        refine mm_callVF (q0 := 0) (ci := 2) (rest := []) C0 lk_X2_66 (ctX2_readCompared (a := a) (d := d - 1) hgo hE (by omega) hc_15) (by omega) rfl hl.1 rfl (mm_cat rfl) dX2_readBoth_34 hP hD hA hS rfl rfl (fun H locs hP hD hS => ?_)
        refine W.eq (g2 := F0 m 37 ls []) rfl ?_
        refine lv_aload_n hx hb dX2_readBoth_37 rfl (lv_at hl 0 rfl) ?_
        refine lv_bipush (v := 38) hx hb dX2_readBoth_38 (by decide) ?_
        obtain ⟨w_16, w_17, hc_18, hf⟩ := mm_bd2s hf
        refine mm_callVF (q0 := 0) (ci := 2) (rest := []) C0 lk_X2_60 (ctX2_note (a := a) (d := d - 1) (by omega) hc_18) (by omega) rfl hl.1 rfl (mm_cat rfl) dX2_readBoth_40 hP hD hA hS rfl rfl (fun H locs hP hD hS => ?_)
        refine W.eq (g2 := F0 m 43 ls []) rfl ?_
        obtain ⟨y_19, ey_19⟩ : ∃ z : Int32, z = x2 + (1 : Int32) := ⟨_, rfl⟩
        have hf := mm_nms hf ey_19
        refine lv_iinc (v := y_19) (lv' := [(2, .int y_19), (0, .ref (a 0)), (1, .int x1)]) hx hb dX2_readBoth_43 hl (k := 2) rfl (by rw [ey_19]; rfl) (by decide) rfl (fun ls hl => ?_)
        refine lv_goto (tgt := 7) hx hb dX2_readBoth_46 (by decide) ?_
        exact ih _ _ _ _ _ _ _ _ H locs ls hf hP hD hS (lv_sub hl [1, 2, 0] rfl)

def fX2_readBoth (N : Nat) (go : Int32 → Int32 → Int32 → Int32 → Int32 → List Int32 → List Int32 → Option (Int32 × Int32 × Int32 × List Int32)) (x1 : Int32) (v_size : Int32) (v_draftCount : Int32) (v_place : Int32) (v_fault : Int32) (v_tape : List Int32) (v_draft : List Int32) : Option (Int32 × Int32 × Int32 × List Int32) :=
    mm_bd4 (fX2_readCompared N go x1 v_size v_draftCount v_place v_fault v_tape v_draft) (fun (w_1 : Int32) (w_2 : Int32) (w_3 : Int32) (w_4 : List Int32) =>
    fX2_readBoth_7 N go N x1 (0 : Int32) v_size w_1 w_2 w_3 v_tape w_4)

set_option maxHeartbeats 4000000 in
set_option maxRecDepth 100000 in
theorem ctX2_readBoth {l : Launch} {D : va_G} {cI cL cS cH : ClassId} {a : Nat → Nat} {x1 : Int32} {v_size : Int32} {v_stepCount : Int32} {v_draftCount : Int32} {v_place : Int32} {v_fault : Int32} {v_stacked : Int32} {v_tape : List Int32} {v_steps : List Int32} {v_draft : List Int32} {v_stack : List Int32} {w_draftCount : Int32} {w_place : Int32} {w_fault : Int32} {w_draft : List Int32} {N d : Nat} {go : Int32 → Int32 → Int32 → Int32 → Int32 → List Int32 → List Int32 → Option (Int32 × Int32 × Int32 × List Int32)} {dgo : Nat} (hgo : ∀ (a : Nat → Nat) (x1 : Int32) (v_size : Int32) (v_stepCount : Int32) (v_draftCount : Int32) (v_place : Int32) (v_fault : Int32) (v_stacked : Int32) (v_tape : List Int32) (v_steps : List Int32) (v_draft : List Int32) (v_stack : List Int32) (w_draftCount : Int32) (w_place : Int32) (w_fault : Int32) (w_draft : List Int32), go x1 v_size v_draftCount v_place v_fault v_tape v_draft = some (w_draftCount, w_place, w_fault, w_draft) → mm_Ct l yX2_readOne cX2_readOne 3 none dgo D (mm_T cI cL cS cH) [.ref (a 0), .int x1] (wd_X2 cI cL cS cH a v_size v_stepCount v_draftCount v_place v_fault v_stacked v_tape v_steps v_draft v_stack) (wd_X2 cI cL cS cH a v_size v_stepCount w_draftCount w_place w_fault v_stacked v_tape v_steps w_draft v_stack) none) (hE : 2 ≤ dgo) (hd : dgo + 4 ≤ d) (hf : fX2_readBoth N go x1 v_size v_draftCount v_place v_fault v_tape v_draft = some (w_draftCount, w_place, w_fault, w_draft)) : mm_Ct l yX2_readBoth cX2_readBoth 3 none d D (mm_T cI cL cS cH) [.ref (a 0), .int x1] (wd_X2 cI cL cS cH a v_size v_stepCount v_draftCount v_place v_fault v_stacked v_tape v_steps v_draft v_stack) (wd_X2 cI cL cS cH a v_size v_stepCount w_draftCount w_place w_fault v_stacked v_tape v_steps w_draft v_stack) none := by
  refine mm_of (by decide) (Nat.le_of_ble_eq_true rfl) ?_
  intro p e s m args below meth c A H locs ls C0 hP hD hA hS hl
  have C0 : mm_Cx p s m args meth c RX2 cX2_readBoth 3 none D (mm_T cI cL cS cH) A := C0
  obtain ⟨hx, hb, hml, hown, hts, hr, hlocks, hK, hSt⟩ := id C0
  have hl : lv_has ls 3 [(0, .ref (a 0)), (1, .int x1)] := hl
  unfold fX2_readBoth at hf
  refine lv_aload_n hx hb dX2_readBoth_0 rfl (lv_at hl 0 rfl) ?_
  refine lv_iload_n hx hb dX2_readBoth_1 rfl (lv_at hl 1 rfl) ?_
  obtain ⟨w_1, w_2, w_3, w_4, hc_5, hf⟩ := mm_bd4s hf
  refine mm_callVF (q0 := 0) (ci := 2) (rest := []) C0 lk_X2_66 (ctX2_readCompared (a := a) (d := d - 1) hgo hE (by omega) hc_5) (by omega) rfl hl.1 rfl (mm_cat rfl) dX2_readBoth_2 hP hD hA hS rfl rfl (fun H locs hP hD hS => ?_)
  refine W.eq (g2 := F0 m 5 ls []) rfl ?_
  refine lv_iconst (v := 0) hx hb dX2_readBoth_5 (by decide) ?_
  refine lv_istore_n (lv' := [(2, .int (0 : Int32)), (0, .ref (a 0)), (1, .int x1)]) hx hb dX2_readBoth_6 rfl hl (by decide) rfl (fun ls hl => ?_)
  exact tX2_readBoth_7 hgo hE hd C0 hA N  N _ _ _ _ _ _ _ _ H locs ls hf hP hD hS (lv_sub hl [1, 2, 0] rfl)

theorem nb_dX2_readEither_0 : bls_w cX2_readEither [(0, [42]), (1, [27]), (2, [182, 0, 63]), (5, [3]), (6, [61]), (7, [28]), (8, [16, 120]), (10, [162, 0, 39]), (13, [42]), (14, [16, 124]), (16, [182, 0, 40]), (19, [153, 0, 30])] := bls_of (by decide +kernel)
theorem dX2_readEither_0 : decode cX2_readEither 0 = .ok (.aload_n 0, 1) := op_42 nb_dX2_readEither_0.1
theorem dX2_readEither_1 : decode cX2_readEither 1 = .ok (.iload_n 1, 1) := op_27 nb_dX2_readEither_0.2.1
set_option maxRecDepth 100000 in
theorem dX2_readEither_2 : decode cX2_readEither 2 = .ok (.invokevirtual 63, 3) := (op_182 nb_dX2_readEither_0.2.2.1).trans rfl
theorem dX2_readEither_5 : decode cX2_readEither 5 = .ok (.iconst 0, 1) := op_3 nb_dX2_readEither_0.2.2.2.1
theorem dX2_readEither_6 : decode cX2_readEither 6 = .ok (.istore_n 2, 1) := op_61 nb_dX2_readEither_0.2.2.2.2.1
theorem dX2_readEither_7 : decode cX2_readEither 7 = .ok (.iload_n 2, 1) := op_28 nb_dX2_readEither_0.2.2.2.2.2.1
set_option maxRecDepth 100000 in
theorem dX2_readEither_8 : decode cX2_readEither 8 = .ok (.bipush 120, 2) := (op_16 nb_dX2_readEither_0.2.2.2.2.2.2.1).trans rfl
set_option maxRecDepth 100000 in
theorem dX2_readEither_10 : decode cX2_readEither 10 = .ok (.if_icmp .ge 39, 3) := (op_162 nb_dX2_readEither_0.2.2.2.2.2.2.2.1).trans rfl
theorem dX2_readEither_13 : decode cX2_readEither 13 = .ok (.aload_n 0, 1) := op_42 nb_dX2_readEither_0.2.2.2.2.2.2.2.2.1
set_option maxRecDepth 100000 in
theorem dX2_readEither_14 : decode cX2_readEither 14 = .ok (.bipush 124, 2) := (op_16 nb_dX2_readEither_0.2.2.2.2.2.2.2.2.2.1).trans rfl
set_option maxRecDepth 100000 in
theorem dX2_readEither_16 : decode cX2_readEither 16 = .ok (.invokevirtual 40, 3) := (op_182 nb_dX2_readEither_0.2.2.2.2.2.2.2.2.2.2.1).trans rfl
set_option maxRecDepth 100000 in
theorem dX2_readEither_19 : decode cX2_readEither 19 = .ok (.ifCond .eq 30, 3) := (op_153 nb_dX2_readEither_0.2.2.2.2.2.2.2.2.2.2.2.1).trans rfl
theorem nb_dX2_readEither_22 : bls_w cX2_readEither [(22, [42]), (23, [89]), (24, [180, 0, 28]), (27, [4]), (28, [96]), (29, [181, 0, 28]), (32, [42]), (33, [27]), (34, [182, 0, 63]), (37, [42]), (38, [16, 124]), (40, [182, 0, 60])] := bls_of (by decide +kernel)
theorem dX2_readEither_22 : decode cX2_readEither 22 = .ok (.aload_n 0, 1) := op_42 nb_dX2_readEither_22.1
theorem dX2_readEither_23 : decode cX2_readEither 23 = .ok (.dup, 1) := op_89 nb_dX2_readEither_22.2.1
set_option maxRecDepth 100000 in
theorem dX2_readEither_24 : decode cX2_readEither 24 = .ok (.getfield 28, 3) := (op_180 nb_dX2_readEither_22.2.2.1).trans rfl
theorem dX2_readEither_27 : decode cX2_readEither 27 = .ok (.iconst 1, 1) := op_4 nb_dX2_readEither_22.2.2.2.1
theorem dX2_readEither_28 : decode cX2_readEither 28 = .ok (.iadd, 1) := op_96 nb_dX2_readEither_22.2.2.2.2.1
set_option maxRecDepth 100000 in
theorem dX2_readEither_29 : decode cX2_readEither 29 = .ok (.putfield 28, 3) := (op_181 nb_dX2_readEither_22.2.2.2.2.2.1).trans rfl
theorem dX2_readEither_32 : decode cX2_readEither 32 = .ok (.aload_n 0, 1) := op_42 nb_dX2_readEither_22.2.2.2.2.2.2.1
theorem dX2_readEither_33 : decode cX2_readEither 33 = .ok (.iload_n 1, 1) := op_27 nb_dX2_readEither_22.2.2.2.2.2.2.2.1
set_option maxRecDepth 100000 in
theorem dX2_readEither_34 : decode cX2_readEither 34 = .ok (.invokevirtual 63, 3) := (op_182 nb_dX2_readEither_22.2.2.2.2.2.2.2.2.1).trans rfl
theorem dX2_readEither_37 : decode cX2_readEither 37 = .ok (.aload_n 0, 1) := op_42 nb_dX2_readEither_22.2.2.2.2.2.2.2.2.2.1
set_option maxRecDepth 100000 in
theorem dX2_readEither_38 : decode cX2_readEither 38 = .ok (.bipush 124, 2) := (op_16 nb_dX2_readEither_22.2.2.2.2.2.2.2.2.2.2.1).trans rfl
set_option maxRecDepth 100000 in
theorem dX2_readEither_40 : decode cX2_readEither 40 = .ok (.invokevirtual 60, 3) := (op_182 nb_dX2_readEither_22.2.2.2.2.2.2.2.2.2.2.2.1).trans rfl
theorem nb_dX2_readEither_43 : bls_w cX2_readEither [(43, [132, 2, 1]), (46, [167, 255, 217]), (49, [177])] := bls_of (by decide +kernel)
set_option maxRecDepth 100000 in
theorem dX2_readEither_43 : decode cX2_readEither 43 = .ok (.iinc 2 1, 3) := (op_132 nb_dX2_readEither_43.1).trans rfl
set_option maxRecDepth 100000 in
theorem dX2_readEither_46 : decode cX2_readEither 46 = .ok (.goto (-39), 3) := (op_167 nb_dX2_readEither_43.2.1).trans rfl
theorem dX2_readEither_49 : decode cX2_readEither 49 = .ok (.return_, 1) := op_177 nb_dX2_readEither_43.2.2.1
def fX2_readEither_7 (N : Nat) (go : Int32 → Int32 → Int32 → Int32 → Int32 → List Int32 → List Int32 → Option (Int32 × Int32 × Int32 × List Int32))  : Nat → Int32 → Int32 → Int32 → Int32 → Int32 → Int32 → List Int32 → List Int32 → Option (Int32 × Int32 × Int32 × List Int32)
  | 0 => fun _ _ _ _ _ _ _ _ => none
  | n + 1 => fun x1 x2 v_size v_draftCount v_place v_fault v_tape v_draft =>
    if (120 : Int32) ≤ x2 then
    (some (v_draftCount, v_place, v_fault, v_draft))
    else (mm_bd1 (fX2_meets N (124 : Int32) v_size v_place v_fault v_tape) (fun (r_7 : Bool) =>
    if r_7 = false then
    (some (v_draftCount, v_place, v_fault, v_draft))
    else (mm_nm ((v_place + (1 : Int32))) (fun (y_10 : Int32) =>
    mm_bd4 (fX2_readBoth N go x1 v_size v_draftCount y_10 v_fault v_tape v_draft) (fun (w_11 : Int32) (w_12 : Int32) (w_13 : Int32) (w_14 : List Int32) =>
    mm_bd2 (fX2_note N (124 : Int32) w_11 w_14) (fun (w_16 : Int32) (w_17 : List Int32) =>
    mm_nm (x2 + (1 : Int32)) (fun (y_19 : Int32) =>
    fX2_readEither_7 N go n x1 y_19 v_size w_16 w_12 w_13 v_tape w_17)))))))

set_option maxHeartbeats 4000000 in
set_option maxRecDepth 100000 in
theorem tX2_readEither_7 {p : Program} {l : Launch} {e : Env} {s : State} {m : MethodId} {args : Array Value} {below : List Frame} {meth : Method} {c : Code} {D : va_G} {cI cL cS cH : ClassId} {A : Nat → Prop} {d : Nat} {a : Nat → Nat} {go : Int32 → Int32 → Int32 → Int32 → Int32 → List Int32 → List Int32 → Option (Int32 × Int32 × Int32 × List Int32)} {dgo : Nat} (hgo : ∀ (a : Nat → Nat) (x1 : Int32) (v_size : Int32) (v_stepCount : Int32) (v_draftCount : Int32) (v_place : Int32) (v_fault : Int32) (v_stacked : Int32) (v_tape : List Int32) (v_steps : List Int32) (v_draft : List Int32) (v_stack : List Int32) (w_draftCount : Int32) (w_place : Int32) (w_fault : Int32) (w_draft : List Int32), go x1 v_size v_draftCount v_place v_fault v_tape v_draft = some (w_draftCount, w_place, w_fault, w_draft) → mm_Ct l yX2_readOne cX2_readOne 3 none dgo D (mm_T cI cL cS cH) [.ref (a 0), .int x1] (wd_X2 cI cL cS cH a v_size v_stepCount v_draftCount v_place v_fault v_stacked v_tape v_steps v_draft v_stack) (wd_X2 cI cL cS cH a v_size v_stepCount w_draftCount w_place w_fault v_stacked v_tape v_steps w_draft v_stack) none) (hE : 2 ≤ dgo) (hd : dgo + 5 ≤ d) (C0 : mm_Cx p s m args meth c RX2 cX2_readEither 3 none D (mm_T cI cL cS cH) A) (hA : ∀ q, s.heap.size ≤ q → A q) {v_stepCount : Int32} {v_stacked : Int32} {v_steps : List Int32} {v_stack : List Int32} {w_draftCount : Int32} {w_place : Int32} {w_fault : Int32} {w_draft : List Int32} (N : Nat)  : ∀ (n : Nat), ∀ (x1 : Int32) (x2 : Int32) (v_size : Int32) (v_draftCount : Int32) (v_place : Int32) (v_fault : Int32) (v_tape : List Int32) (v_draft : List Int32) (H : Heap) (locs : List Loc) (ls : Array Slot), fX2_readEither_7 N go n x1 x2 v_size v_draftCount v_place v_fault v_tape v_draft = some (w_draftCount, w_place, w_fault, w_draft) → va_P D mm_cl (wd_X2 cI cL cS cH a v_size v_stepCount v_draftCount v_place v_fault v_stacked v_tape v_steps v_draft v_stack) H → va_D A (wd_X2 cI cL cS cH a v_size v_stepCount v_draftCount v_place v_fault v_stacked v_tape v_steps v_draft v_stack) → va_S A s.heap H locs → lv_has ls 3 [(0, .ref (a 0)), (1, .int x1), (2, .int x2)] → W p l e (mm_rr d) s m args below meth c H locs 0 0 (mm_Z below D A (wd_X2 cI cL cS cH a v_size v_stepCount w_draftCount w_place w_fault v_stacked v_tape v_steps w_draft v_stack) none args s) (F0 m 7 ls []) := by
  obtain ⟨hx, hb, hml, hown, hts, hr, hlocks, hK, hSt⟩ := id C0
  intro n
  induction n with
  | zero =>
    intro x1 x2 v_size v_draftCount v_place v_fault v_tape v_draft H locs ls hf
    cases (show none = some _ from hf)
  | succ n ih =>
    intro x1 x2 v_size v_draftCount v_place v_fault v_tape v_draft H locs ls hf hP hD hS hl
    unfold fX2_readEither_7 at hf
    refine lv_iload_n hx hb dX2_readEither_7 rfl (lv_at hl 2 rfl) ?_
    refine lv_bipush (v := 120) hx hb dX2_readEither_8 (by decide) ?_
    refine lv_icmp_ge (tgt := 49) hx hb dX2_readEither_10 (by decide) (fun c_6 => ?_) (fun c_6 => ?_)
    · have hf := mm_ip hf c_6
      apply mm_sub4 hf
      exact mm_vret C0 hP hD hS dX2_readEither_49
    · have hf := mm_in hf c_6
      refine lv_aload_n hx hb dX2_readEither_13 rfl (lv_at hl 0 rfl) ?_
      refine lv_bipush (v := 124) hx hb dX2_readEither_14 (by decide) ?_
      obtain ⟨r_7, hc_8, hf⟩ := mm_bd1s hf
      refine mm_callVF (q0 := 0) (ci := 2) (rest := []) C0 lk_X2_40 (ctX2_meets (a := a) (d := d - 1) (by omega) hc_8) (by omega) rfl hl.1 rfl (mm_cat rfl) dX2_readEither_16 hP hD hA hS rfl rfl (fun H locs hP hD hS => ?_)
      refine W.eq (g2 := F0 m 19 ls [.int (mm_b r_7)]) rfl ?_
      refine lv_if_eq (tgt := 49) hx hb dX2_readEither_19 (by decide) (fun c_9 => ?_) (fun c_9 => ?_)
      · have hf := mm_ip hf (mm_b0 c_9)
        apply mm_sub4 hf
        exact mm_vret C0 hP hD hS dX2_readEither_49
      · have hf := mm_in hf (mm_b1 c_9)
        refine lv_aload_n hx hb dX2_readEither_22 rfl (lv_at hl 0 rfl) ?_
        refine lv_dup hx hb dX2_readEither_23 rfl ?_
        refine mm_get C0 hP iw_X2 0 rfl rfl 6 (by decide) fl_X2_28 rfl dX2_readEither_24 ?_
        refine lv_iconst (v := 1) hx hb dX2_readEither_27 (by decide) ?_
        refine lv_iadd hx hb dX2_readEither_28 ?_
        refine lv_topi (fun y_10 ey_10 => ?_)
        have hf := mm_nms hf ey_10
        refine mm_put C0 hP hD hS iw_X2 tyX2 tyX2_ok nmX2 0 rfl rfl 6 (by decide) fl_X2_28 rfl rfl rfl (Nat.le_of_ble_eq_true rfl) dX2_readEither_29 (w2 := (wd_X2 cI cL cS cH a v_size v_stepCount v_draftCount y_10 v_fault v_stacked v_tape v_steps v_draft v_stack)) rfl (fun H locs hP hD hS => ?_)
        refine lv_aload_n hx hb dX2_readEither_32 rfl (lv_at hl 0 rfl) ?_
        refine lv_iload_n hx hb dX2_readEither_33 rfl (lv_at hl 1 rfl) ?_
        obtain ⟨w_11, w_12, w_13, w_14, hc_15, hf⟩ := mm_bd4s hf
        refine mm_callVF (q0 := 0) (ci := 2) (rest := []) C0 lk_X2_63 (ctX2_readBoth (a := a) (d := d - 1) hgo hE (by omega) hc_15) (by omega) rfl hl.1 rfl (mm_cat rfl) dX2_readEither_34 hP hD hA hS rfl rfl (fun H locs hP hD hS => ?_)
        refine W.eq (g2 := F0 m 37 ls []) rfl ?_
        refine lv_aload_n hx hb dX2_readEither_37 rfl (lv_at hl 0 rfl) ?_
        refine lv_bipush (v := 124) hx hb dX2_readEither_38 (by decide) ?_
        obtain ⟨w_16, w_17, hc_18, hf⟩ := mm_bd2s hf
        refine mm_callVF (q0 := 0) (ci := 2) (rest := []) C0 lk_X2_60 (ctX2_note (a := a) (d := d - 1) (by omega) hc_18) (by omega) rfl hl.1 rfl (mm_cat rfl) dX2_readEither_40 hP hD hA hS rfl rfl (fun H locs hP hD hS => ?_)
        refine W.eq (g2 := F0 m 43 ls []) rfl ?_
        obtain ⟨y_19, ey_19⟩ : ∃ z : Int32, z = x2 + (1 : Int32) := ⟨_, rfl⟩
        have hf := mm_nms hf ey_19
        refine lv_iinc (v := y_19) (lv' := [(2, .int y_19), (0, .ref (a 0)), (1, .int x1)]) hx hb dX2_readEither_43 hl (k := 2) rfl (by rw [ey_19]; rfl) (by decide) rfl (fun ls hl => ?_)
        refine lv_goto (tgt := 7) hx hb dX2_readEither_46 (by decide) ?_
        exact ih _ _ _ _ _ _ _ _ H locs ls hf hP hD hS (lv_sub hl [1, 2, 0] rfl)

def fX2_readEither (N : Nat) (go : Int32 → Int32 → Int32 → Int32 → Int32 → List Int32 → List Int32 → Option (Int32 × Int32 × Int32 × List Int32)) (x1 : Int32) (v_size : Int32) (v_draftCount : Int32) (v_place : Int32) (v_fault : Int32) (v_tape : List Int32) (v_draft : List Int32) : Option (Int32 × Int32 × Int32 × List Int32) :=
    mm_bd4 (fX2_readBoth N go x1 v_size v_draftCount v_place v_fault v_tape v_draft) (fun (w_1 : Int32) (w_2 : Int32) (w_3 : Int32) (w_4 : List Int32) =>
    fX2_readEither_7 N go N x1 (0 : Int32) v_size w_1 w_2 w_3 v_tape w_4)

set_option maxHeartbeats 4000000 in
set_option maxRecDepth 100000 in
theorem ctX2_readEither {l : Launch} {D : va_G} {cI cL cS cH : ClassId} {a : Nat → Nat} {x1 : Int32} {v_size : Int32} {v_stepCount : Int32} {v_draftCount : Int32} {v_place : Int32} {v_fault : Int32} {v_stacked : Int32} {v_tape : List Int32} {v_steps : List Int32} {v_draft : List Int32} {v_stack : List Int32} {w_draftCount : Int32} {w_place : Int32} {w_fault : Int32} {w_draft : List Int32} {N d : Nat} {go : Int32 → Int32 → Int32 → Int32 → Int32 → List Int32 → List Int32 → Option (Int32 × Int32 × Int32 × List Int32)} {dgo : Nat} (hgo : ∀ (a : Nat → Nat) (x1 : Int32) (v_size : Int32) (v_stepCount : Int32) (v_draftCount : Int32) (v_place : Int32) (v_fault : Int32) (v_stacked : Int32) (v_tape : List Int32) (v_steps : List Int32) (v_draft : List Int32) (v_stack : List Int32) (w_draftCount : Int32) (w_place : Int32) (w_fault : Int32) (w_draft : List Int32), go x1 v_size v_draftCount v_place v_fault v_tape v_draft = some (w_draftCount, w_place, w_fault, w_draft) → mm_Ct l yX2_readOne cX2_readOne 3 none dgo D (mm_T cI cL cS cH) [.ref (a 0), .int x1] (wd_X2 cI cL cS cH a v_size v_stepCount v_draftCount v_place v_fault v_stacked v_tape v_steps v_draft v_stack) (wd_X2 cI cL cS cH a v_size v_stepCount w_draftCount w_place w_fault v_stacked v_tape v_steps w_draft v_stack) none) (hE : 2 ≤ dgo) (hd : dgo + 5 ≤ d) (hf : fX2_readEither N go x1 v_size v_draftCount v_place v_fault v_tape v_draft = some (w_draftCount, w_place, w_fault, w_draft)) : mm_Ct l yX2_readEither cX2_readEither 3 none d D (mm_T cI cL cS cH) [.ref (a 0), .int x1] (wd_X2 cI cL cS cH a v_size v_stepCount v_draftCount v_place v_fault v_stacked v_tape v_steps v_draft v_stack) (wd_X2 cI cL cS cH a v_size v_stepCount w_draftCount w_place w_fault v_stacked v_tape v_steps w_draft v_stack) none := by
  refine mm_of (by decide) (Nat.le_of_ble_eq_true rfl) ?_
  intro p e s m args below meth c A H locs ls C0 hP hD hA hS hl
  have C0 : mm_Cx p s m args meth c RX2 cX2_readEither 3 none D (mm_T cI cL cS cH) A := C0
  obtain ⟨hx, hb, hml, hown, hts, hr, hlocks, hK, hSt⟩ := id C0
  have hl : lv_has ls 3 [(0, .ref (a 0)), (1, .int x1)] := hl
  unfold fX2_readEither at hf
  refine lv_aload_n hx hb dX2_readEither_0 rfl (lv_at hl 0 rfl) ?_
  refine lv_iload_n hx hb dX2_readEither_1 rfl (lv_at hl 1 rfl) ?_
  obtain ⟨w_1, w_2, w_3, w_4, hc_5, hf⟩ := mm_bd4s hf
  refine mm_callVF (q0 := 0) (ci := 2) (rest := []) C0 lk_X2_63 (ctX2_readBoth (a := a) (d := d - 1) hgo hE (by omega) hc_5) (by omega) rfl hl.1 rfl (mm_cat rfl) dX2_readEither_2 hP hD hA hS rfl rfl (fun H locs hP hD hS => ?_)
  refine W.eq (g2 := F0 m 5 ls []) rfl ?_
  refine lv_iconst (v := 0) hx hb dX2_readEither_5 (by decide) ?_
  refine lv_istore_n (lv' := [(2, .int (0 : Int32)), (0, .ref (a 0)), (1, .int x1)]) hx hb dX2_readEither_6 rfl hl (by decide) rfl (fun ls hl => ?_)
  exact tX2_readEither_7 hgo hE hd C0 hA N  N _ _ _ _ _ _ _ _ H locs ls hf hP hD hS (lv_sub hl [1, 2, 0] rfl)

theorem nb_dX2_readOne_0 : bls_w cX2_readOne [(0, [42]), (1, [182, 0, 72]), (4, [61]), (5, [28]), (6, [184, 0, 82]), (9, [153, 0, 10]), (12, [42]), (13, [182, 0, 85]), (16, [167, 0, 145]), (19, [28]), (20, [184, 0, 88]), (23, [153, 0, 21])] := bls_of (by decide +kernel)
theorem dX2_readOne_0 : decode cX2_readOne 0 = .ok (.aload_n 0, 1) := op_42 nb_dX2_readOne_0.1
set_option maxRecDepth 100000 in
theorem dX2_readOne_1 : decode cX2_readOne 1 = .ok (.invokevirtual 72, 3) := (op_182 nb_dX2_readOne_0.2.1).trans rfl
theorem dX2_readOne_4 : decode cX2_readOne 4 = .ok (.istore_n 2, 1) := op_61 nb_dX2_readOne_0.2.2.1
theorem dX2_readOne_5 : decode cX2_readOne 5 = .ok (.iload_n 2, 1) := op_28 nb_dX2_readOne_0.2.2.2.1
set_option maxRecDepth 100000 in
theorem dX2_readOne_6 : decode cX2_readOne 6 = .ok (.invokestatic 82, 3) := (op_184 nb_dX2_readOne_0.2.2.2.2.1).trans rfl
set_option maxRecDepth 100000 in
theorem dX2_readOne_9 : decode cX2_readOne 9 = .ok (.ifCond .eq 10, 3) := (op_153 nb_dX2_readOne_0.2.2.2.2.2.1).trans rfl
theorem dX2_readOne_12 : decode cX2_readOne 12 = .ok (.aload_n 0, 1) := op_42 nb_dX2_readOne_0.2.2.2.2.2.2.1
set_option maxRecDepth 100000 in
theorem dX2_readOne_13 : decode cX2_readOne 13 = .ok (.invokevirtual 85, 3) := (op_182 nb_dX2_readOne_0.2.2.2.2.2.2.2.1).trans rfl
set_option maxRecDepth 100000 in
theorem dX2_readOne_16 : decode cX2_readOne 16 = .ok (.goto 145, 3) := (op_167 nb_dX2_readOne_0.2.2.2.2.2.2.2.2.1).trans rfl
theorem dX2_readOne_19 : decode cX2_readOne 19 = .ok (.iload_n 2, 1) := op_28 nb_dX2_readOne_0.2.2.2.2.2.2.2.2.2.1
set_option maxRecDepth 100000 in
theorem dX2_readOne_20 : decode cX2_readOne 20 = .ok (.invokestatic 88, 3) := (op_184 nb_dX2_readOne_0.2.2.2.2.2.2.2.2.2.2.1).trans rfl
set_option maxRecDepth 100000 in
theorem dX2_readOne_23 : decode cX2_readOne 23 = .ok (.ifCond .eq 21, 3) := (op_153 nb_dX2_readOne_0.2.2.2.2.2.2.2.2.2.2.2.1).trans rfl
theorem nb_dX2_readOne_26 : bls_w cX2_readOne [(26, [42]), (27, [89]), (28, [180, 0, 28]), (31, [4]), (32, [96]), (33, [181, 0, 28]), (36, [42]), (37, [28]), (38, [182, 0, 60]), (41, [167, 0, 120]), (44, [27]), (45, [16, 6])] := bls_of (by decide +kernel)
theorem dX2_readOne_26 : decode cX2_readOne 26 = .ok (.aload_n 0, 1) := op_42 nb_dX2_readOne_26.1
theorem dX2_readOne_27 : decode cX2_readOne 27 = .ok (.dup, 1) := op_89 nb_dX2_readOne_26.2.1
set_option maxRecDepth 100000 in
theorem dX2_readOne_28 : decode cX2_readOne 28 = .ok (.getfield 28, 3) := (op_180 nb_dX2_readOne_26.2.2.1).trans rfl
theorem dX2_readOne_31 : decode cX2_readOne 31 = .ok (.iconst 1, 1) := op_4 nb_dX2_readOne_26.2.2.2.1
theorem dX2_readOne_32 : decode cX2_readOne 32 = .ok (.iadd, 1) := op_96 nb_dX2_readOne_26.2.2.2.2.1
set_option maxRecDepth 100000 in
theorem dX2_readOne_33 : decode cX2_readOne 33 = .ok (.putfield 28, 3) := (op_181 nb_dX2_readOne_26.2.2.2.2.2.1).trans rfl
theorem dX2_readOne_36 : decode cX2_readOne 36 = .ok (.aload_n 0, 1) := op_42 nb_dX2_readOne_26.2.2.2.2.2.2.1
theorem dX2_readOne_37 : decode cX2_readOne 37 = .ok (.iload_n 2, 1) := op_28 nb_dX2_readOne_26.2.2.2.2.2.2.2.1
set_option maxRecDepth 100000 in
theorem dX2_readOne_38 : decode cX2_readOne 38 = .ok (.invokevirtual 60, 3) := (op_182 nb_dX2_readOne_26.2.2.2.2.2.2.2.2.1).trans rfl
set_option maxRecDepth 100000 in
theorem dX2_readOne_41 : decode cX2_readOne 41 = .ok (.goto 120, 3) := (op_167 nb_dX2_readOne_26.2.2.2.2.2.2.2.2.2.1).trans rfl
theorem dX2_readOne_44 : decode cX2_readOne 44 = .ok (.iload_n 1, 1) := op_27 nb_dX2_readOne_26.2.2.2.2.2.2.2.2.2.2.1
set_option maxRecDepth 100000 in
theorem dX2_readOne_45 : decode cX2_readOne 45 = .ok (.bipush 6, 2) := (op_16 nb_dX2_readOne_26.2.2.2.2.2.2.2.2.2.2.2.1).trans rfl
theorem nb_dX2_readOne_47 : bls_w cX2_readOne [(47, [162, 0, 52]), (50, [28]), (51, [16, 33]), (53, [159, 0, 9]), (56, [28]), (57, [16, 45]), (59, [160, 0, 40]), (62, [42]), (63, [89]), (64, [180, 0, 28]), (67, [4]), (68, [96])] := bls_of (by decide +kernel)
set_option maxRecDepth 100000 in
theorem dX2_readOne_47 : decode cX2_readOne 47 = .ok (.if_icmp .ge 52, 3) := (op_162 nb_dX2_readOne_47.1).trans rfl
theorem dX2_readOne_50 : decode cX2_readOne 50 = .ok (.iload_n 2, 1) := op_28 nb_dX2_readOne_47.2.1
set_option maxRecDepth 100000 in
theorem dX2_readOne_51 : decode cX2_readOne 51 = .ok (.bipush 33, 2) := (op_16 nb_dX2_readOne_47.2.2.1).trans rfl
set_option maxRecDepth 100000 in
theorem dX2_readOne_53 : decode cX2_readOne 53 = .ok (.if_icmp .eq 9, 3) := (op_159 nb_dX2_readOne_47.2.2.2.1).trans rfl
theorem dX2_readOne_56 : decode cX2_readOne 56 = .ok (.iload_n 2, 1) := op_28 nb_dX2_readOne_47.2.2.2.2.1
set_option maxRecDepth 100000 in
theorem dX2_readOne_57 : decode cX2_readOne 57 = .ok (.bipush 45, 2) := (op_16 nb_dX2_readOne_47.2.2.2.2.2.1).trans rfl
set_option maxRecDepth 100000 in
theorem dX2_readOne_59 : decode cX2_readOne 59 = .ok (.if_icmp .ne 40, 3) := (op_160 nb_dX2_readOne_47.2.2.2.2.2.2.1).trans rfl
theorem dX2_readOne_62 : decode cX2_readOne 62 = .ok (.aload_n 0, 1) := op_42 nb_dX2_readOne_47.2.2.2.2.2.2.2.1
theorem dX2_readOne_63 : decode cX2_readOne 63 = .ok (.dup, 1) := op_89 nb_dX2_readOne_47.2.2.2.2.2.2.2.2.1
set_option maxRecDepth 100000 in
theorem dX2_readOne_64 : decode cX2_readOne 64 = .ok (.getfield 28, 3) := (op_180 nb_dX2_readOne_47.2.2.2.2.2.2.2.2.2.1).trans rfl
theorem dX2_readOne_67 : decode cX2_readOne 67 = .ok (.iconst 1, 1) := op_4 nb_dX2_readOne_47.2.2.2.2.2.2.2.2.2.2.1
theorem dX2_readOne_68 : decode cX2_readOne 68 = .ok (.iadd, 1) := op_96 nb_dX2_readOne_47.2.2.2.2.2.2.2.2.2.2.2.1
theorem nb_dX2_readOne_69 : bls_w cX2_readOne [(69, [181, 0, 28]), (72, [42]), (73, [27]), (74, [4]), (75, [96]), (76, [182, 0, 79]), (79, [42]), (80, [28]), (81, [16, 33]), (83, [160, 0, 8]), (86, [16, 33]), (88, [167, 0, 5])] := bls_of (by decide +kernel)
set_option maxRecDepth 100000 in
theorem dX2_readOne_69 : decode cX2_readOne 69 = .ok (.putfield 28, 3) := (op_181 nb_dX2_readOne_69.1).trans rfl
theorem dX2_readOne_72 : decode cX2_readOne 72 = .ok (.aload_n 0, 1) := op_42 nb_dX2_readOne_69.2.1
theorem dX2_readOne_73 : decode cX2_readOne 73 = .ok (.iload_n 1, 1) := op_27 nb_dX2_readOne_69.2.2.1
theorem dX2_readOne_74 : decode cX2_readOne 74 = .ok (.iconst 1, 1) := op_4 nb_dX2_readOne_69.2.2.2.1
theorem dX2_readOne_75 : decode cX2_readOne 75 = .ok (.iadd, 1) := op_96 nb_dX2_readOne_69.2.2.2.2.1
set_option maxRecDepth 100000 in
theorem dX2_readOne_76 : decode cX2_readOne 76 = .ok (.invokevirtual 79, 3) := (op_182 nb_dX2_readOne_69.2.2.2.2.2.1).trans rfl
theorem dX2_readOne_79 : decode cX2_readOne 79 = .ok (.aload_n 0, 1) := op_42 nb_dX2_readOne_69.2.2.2.2.2.2.1
theorem dX2_readOne_80 : decode cX2_readOne 80 = .ok (.iload_n 2, 1) := op_28 nb_dX2_readOne_69.2.2.2.2.2.2.2.1
set_option maxRecDepth 100000 in
theorem dX2_readOne_81 : decode cX2_readOne 81 = .ok (.bipush 33, 2) := (op_16 nb_dX2_readOne_69.2.2.2.2.2.2.2.2.1).trans rfl
set_option maxRecDepth 100000 in
theorem dX2_readOne_83 : decode cX2_readOne 83 = .ok (.if_icmp .ne 8, 3) := (op_160 nb_dX2_readOne_69.2.2.2.2.2.2.2.2.2.1).trans rfl
set_option maxRecDepth 100000 in
theorem dX2_readOne_86 : decode cX2_readOne 86 = .ok (.bipush 33, 2) := (op_16 nb_dX2_readOne_69.2.2.2.2.2.2.2.2.2.2.1).trans rfl
set_option maxRecDepth 100000 in
theorem dX2_readOne_88 : decode cX2_readOne 88 = .ok (.goto 5, 3) := (op_167 nb_dX2_readOne_69.2.2.2.2.2.2.2.2.2.2.2.1).trans rfl
theorem nb_dX2_readOne_91 : bls_w cX2_readOne [(91, [16, 126]), (93, [182, 0, 60]), (96, [167, 0, 65]), (99, [27]), (100, [16, 6]), (102, [162, 0, 55]), (105, [28]), (106, [16, 40]), (108, [160, 0, 49]), (111, [42]), (112, [89]), (113, [180, 0, 28])] := bls_of (by decide +kernel)
set_option maxRecDepth 100000 in
theorem dX2_readOne_91 : decode cX2_readOne 91 = .ok (.bipush 126, 2) := (op_16 nb_dX2_readOne_91.1).trans rfl
set_option maxRecDepth 100000 in
theorem dX2_readOne_93 : decode cX2_readOne 93 = .ok (.invokevirtual 60, 3) := (op_182 nb_dX2_readOne_91.2.1).trans rfl
set_option maxRecDepth 100000 in
theorem dX2_readOne_96 : decode cX2_readOne 96 = .ok (.goto 65, 3) := (op_167 nb_dX2_readOne_91.2.2.1).trans rfl
theorem dX2_readOne_99 : decode cX2_readOne 99 = .ok (.iload_n 1, 1) := op_27 nb_dX2_readOne_91.2.2.2.1
set_option maxRecDepth 100000 in
theorem dX2_readOne_100 : decode cX2_readOne 100 = .ok (.bipush 6, 2) := (op_16 nb_dX2_readOne_91.2.2.2.2.1).trans rfl
set_option maxRecDepth 100000 in
theorem dX2_readOne_102 : decode cX2_readOne 102 = .ok (.if_icmp .ge 55, 3) := (op_162 nb_dX2_readOne_91.2.2.2.2.2.1).trans rfl
theorem dX2_readOne_105 : decode cX2_readOne 105 = .ok (.iload_n 2, 1) := op_28 nb_dX2_readOne_91.2.2.2.2.2.2.1
set_option maxRecDepth 100000 in
theorem dX2_readOne_106 : decode cX2_readOne 106 = .ok (.bipush 40, 2) := (op_16 nb_dX2_readOne_91.2.2.2.2.2.2.2.1).trans rfl
set_option maxRecDepth 100000 in
theorem dX2_readOne_108 : decode cX2_readOne 108 = .ok (.if_icmp .ne 49, 3) := (op_160 nb_dX2_readOne_91.2.2.2.2.2.2.2.2.1).trans rfl
theorem dX2_readOne_111 : decode cX2_readOne 111 = .ok (.aload_n 0, 1) := op_42 nb_dX2_readOne_91.2.2.2.2.2.2.2.2.2.1
theorem dX2_readOne_112 : decode cX2_readOne 112 = .ok (.dup, 1) := op_89 nb_dX2_readOne_91.2.2.2.2.2.2.2.2.2.2.1
set_option maxRecDepth 100000 in
theorem dX2_readOne_113 : decode cX2_readOne 113 = .ok (.getfield 28, 3) := (op_180 nb_dX2_readOne_91.2.2.2.2.2.2.2.2.2.2.2.1).trans rfl
theorem nb_dX2_readOne_116 : bls_w cX2_readOne [(116, [4]), (117, [96]), (118, [181, 0, 28]), (121, [42]), (122, [27]), (123, [4]), (124, [96]), (125, [182, 0, 56]), (128, [42]), (129, [16, 41]), (131, [182, 0, 40]), (134, [153, 0, 16])] := bls_of (by decide +kernel)
theorem dX2_readOne_116 : decode cX2_readOne 116 = .ok (.iconst 1, 1) := op_4 nb_dX2_readOne_116.1
theorem dX2_readOne_117 : decode cX2_readOne 117 = .ok (.iadd, 1) := op_96 nb_dX2_readOne_116.2.1
set_option maxRecDepth 100000 in
theorem dX2_readOne_118 : decode cX2_readOne 118 = .ok (.putfield 28, 3) := (op_181 nb_dX2_readOne_116.2.2.1).trans rfl
theorem dX2_readOne_121 : decode cX2_readOne 121 = .ok (.aload_n 0, 1) := op_42 nb_dX2_readOne_116.2.2.2.1
theorem dX2_readOne_122 : decode cX2_readOne 122 = .ok (.iload_n 1, 1) := op_27 nb_dX2_readOne_116.2.2.2.2.1
theorem dX2_readOne_123 : decode cX2_readOne 123 = .ok (.iconst 1, 1) := op_4 nb_dX2_readOne_116.2.2.2.2.2.1
theorem dX2_readOne_124 : decode cX2_readOne 124 = .ok (.iadd, 1) := op_96 nb_dX2_readOne_116.2.2.2.2.2.2.1
set_option maxRecDepth 100000 in
theorem dX2_readOne_125 : decode cX2_readOne 125 = .ok (.invokevirtual 56, 3) := (op_182 nb_dX2_readOne_116.2.2.2.2.2.2.2.1).trans rfl
theorem dX2_readOne_128 : decode cX2_readOne 128 = .ok (.aload_n 0, 1) := op_42 nb_dX2_readOne_116.2.2.2.2.2.2.2.2.1
set_option maxRecDepth 100000 in
theorem dX2_readOne_129 : decode cX2_readOne 129 = .ok (.bipush 41, 2) := (op_16 nb_dX2_readOne_116.2.2.2.2.2.2.2.2.2.1).trans rfl
set_option maxRecDepth 100000 in
theorem dX2_readOne_131 : decode cX2_readOne 131 = .ok (.invokevirtual 40, 3) := (op_182 nb_dX2_readOne_116.2.2.2.2.2.2.2.2.2.2.1).trans rfl
set_option maxRecDepth 100000 in
theorem dX2_readOne_134 : decode cX2_readOne 134 = .ok (.ifCond .eq 16, 3) := (op_153 nb_dX2_readOne_116.2.2.2.2.2.2.2.2.2.2.2.1).trans rfl
theorem nb_dX2_readOne_137 : bls_w cX2_readOne [(137, [42]), (138, [89]), (139, [180, 0, 28]), (142, [4]), (143, [96]), (144, [181, 0, 28]), (147, [167, 0, 14]), (150, [42]), (151, [182, 0, 44]), (154, [167, 0, 7]), (157, [42]), (158, [182, 0, 44])] := bls_of (by decide +kernel)
theorem dX2_readOne_137 : decode cX2_readOne 137 = .ok (.aload_n 0, 1) := op_42 nb_dX2_readOne_137.1
theorem dX2_readOne_138 : decode cX2_readOne 138 = .ok (.dup, 1) := op_89 nb_dX2_readOne_137.2.1
set_option maxRecDepth 100000 in
theorem dX2_readOne_139 : decode cX2_readOne 139 = .ok (.getfield 28, 3) := (op_180 nb_dX2_readOne_137.2.2.1).trans rfl
theorem dX2_readOne_142 : decode cX2_readOne 142 = .ok (.iconst 1, 1) := op_4 nb_dX2_readOne_137.2.2.2.1
theorem dX2_readOne_143 : decode cX2_readOne 143 = .ok (.iadd, 1) := op_96 nb_dX2_readOne_137.2.2.2.2.1
set_option maxRecDepth 100000 in
theorem dX2_readOne_144 : decode cX2_readOne 144 = .ok (.putfield 28, 3) := (op_181 nb_dX2_readOne_137.2.2.2.2.2.1).trans rfl
set_option maxRecDepth 100000 in
theorem dX2_readOne_147 : decode cX2_readOne 147 = .ok (.goto 14, 3) := (op_167 nb_dX2_readOne_137.2.2.2.2.2.2.1).trans rfl
theorem dX2_readOne_150 : decode cX2_readOne 150 = .ok (.aload_n 0, 1) := op_42 nb_dX2_readOne_137.2.2.2.2.2.2.2.1
set_option maxRecDepth 100000 in
theorem dX2_readOne_151 : decode cX2_readOne 151 = .ok (.invokevirtual 44, 3) := (op_182 nb_dX2_readOne_137.2.2.2.2.2.2.2.2.1).trans rfl
set_option maxRecDepth 100000 in
theorem dX2_readOne_154 : decode cX2_readOne 154 = .ok (.goto 7, 3) := (op_167 nb_dX2_readOne_137.2.2.2.2.2.2.2.2.2.1).trans rfl
theorem dX2_readOne_157 : decode cX2_readOne 157 = .ok (.aload_n 0, 1) := op_42 nb_dX2_readOne_137.2.2.2.2.2.2.2.2.2.2.1
set_option maxRecDepth 100000 in
theorem dX2_readOne_158 : decode cX2_readOne 158 = .ok (.invokevirtual 44, 3) := (op_182 nb_dX2_readOne_137.2.2.2.2.2.2.2.2.2.2.2.1).trans rfl
theorem nb_dX2_readOne_161 : bls_w cX2_readOne [(161, [177])] := bls_of (by decide +kernel)
theorem dX2_readOne_161 : decode cX2_readOne 161 = .ok (.return_, 1) := op_177 nb_dX2_readOne_161.1
def fX2_readOne_93 (N : Nat) (go : Int32 → Int32 → Int32 → Int32 → Int32 → List Int32 → List Int32 → Option (Int32 × Int32 × Int32 × List Int32))  (s0 : Int32) (v_size : Int32) (v_draftCount : Int32) (v_place : Int32) (v_fault : Int32) (v_tape : List Int32) (v_draft : List Int32) : Option (Int32 × Int32 × Int32 × List Int32) :=
    mm_bd2 (fX2_note N s0 v_draftCount v_draft) (fun (w_27 : Int32) (w_28 : List Int32) =>
    some (w_27, v_place, v_fault, w_28))

set_option maxHeartbeats 4000000 in
set_option maxRecDepth 100000 in
theorem tX2_readOne_93 {p : Program} {l : Launch} {e : Env} {s : State} {m : MethodId} {args : Array Value} {below : List Frame} {meth : Method} {c : Code} {D : va_G} {cI cL cS cH : ClassId} {A : Nat → Prop} {d : Nat} {a : Nat → Nat} {go : Int32 → Int32 → Int32 → Int32 → Int32 → List Int32 → List Int32 → Option (Int32 × Int32 × Int32 × List Int32)} {dgo : Nat} (hgo : ∀ (a : Nat → Nat) (x1 : Int32) (v_size : Int32) (v_stepCount : Int32) (v_draftCount : Int32) (v_place : Int32) (v_fault : Int32) (v_stacked : Int32) (v_tape : List Int32) (v_steps : List Int32) (v_draft : List Int32) (v_stack : List Int32) (w_draftCount : Int32) (w_place : Int32) (w_fault : Int32) (w_draft : List Int32), go x1 v_size v_draftCount v_place v_fault v_tape v_draft = some (w_draftCount, w_place, w_fault, w_draft) → mm_Ct l yX2_readOne cX2_readOne 3 none dgo D (mm_T cI cL cS cH) [.ref (a 0), .int x1] (wd_X2 cI cL cS cH a v_size v_stepCount v_draftCount v_place v_fault v_stacked v_tape v_steps v_draft v_stack) (wd_X2 cI cL cS cH a v_size v_stepCount w_draftCount w_place w_fault v_stacked v_tape v_steps w_draft v_stack) none) (hE : 2 ≤ dgo) (hd : dgo + 6 ≤ d) (C0 : mm_Cx p s m args meth c RX2 cX2_readOne 3 none D (mm_T cI cL cS cH) A) (hA : ∀ q, s.heap.size ≤ q → A q) {v_stepCount : Int32} {v_stacked : Int32} {v_steps : List Int32} {v_stack : List Int32} {w_draftCount : Int32} {w_place : Int32} {w_fault : Int32} {w_draft : List Int32} (N : Nat)  : ∀ (s0 : Int32) (v_size : Int32) (v_draftCount : Int32) (v_place : Int32) (v_fault : Int32) (v_tape : List Int32) (v_draft : List Int32) (H : Heap) (locs : List Loc) (ls : Array Slot), fX2_readOne_93 N go s0 v_size v_draftCount v_place v_fault v_tape v_draft = some (w_draftCount, w_place, w_fault, w_draft) → va_P D mm_cl (wd_X2 cI cL cS cH a v_size v_stepCount v_draftCount v_place v_fault v_stacked v_tape v_steps v_draft v_stack) H → va_D A (wd_X2 cI cL cS cH a v_size v_stepCount v_draftCount v_place v_fault v_stacked v_tape v_steps v_draft v_stack) → va_S A s.heap H locs → lv_has ls 3 [] → W p l e (mm_rr d) s m args below meth c H locs 0 0 (mm_Z below D A (wd_X2 cI cL cS cH a v_size v_stepCount w_draftCount w_place w_fault v_stacked v_tape v_steps w_draft v_stack) none args s) (F0 m 93 ls [.int s0, .ref (a 0)]) := by
  obtain ⟨hx, hb, hml, hown, hts, hr, hlocks, hK, hSt⟩ := id C0
  intro s0 v_size v_draftCount v_place v_fault v_tape v_draft H locs ls hf hP hD hS hl
  unfold fX2_readOne_93 at hf
  obtain ⟨w_27, w_28, hc_29, hf⟩ := mm_bd2s hf
  refine mm_callVF (q0 := 0) (ci := 2) (rest := []) C0 lk_X2_60 (ctX2_note (a := a) (d := d - 1) (by omega) hc_29) (by omega) rfl hl.1 rfl (mm_cat rfl) dX2_readOne_93 hP hD hA hS rfl rfl (fun H locs hP hD hS => ?_)
  refine W.eq (g2 := F0 m 96 ls []) rfl ?_
  refine lv_goto (tgt := 161) hx hb dX2_readOne_96 (by decide) ?_
  apply mm_sub4 hf
  exact mm_vret C0 hP hD hS dX2_readOne_161

def fX2_readOne_62 (N : Nat) (go : Int32 → Int32 → Int32 → Int32 → Int32 → List Int32 → List Int32 → Option (Int32 × Int32 × Int32 × List Int32))  (x1 : Int32) (x2 : Int32) (v_size : Int32) (v_draftCount : Int32) (v_place : Int32) (v_fault : Int32) (v_tape : List Int32) (v_draft : List Int32) : Option (Int32 × Int32 × Int32 × List Int32) :=
    mm_nm ((v_place + (1 : Int32))) (fun (y_20 : Int32) =>
    mm_bd4 (go (x1 + (1 : Int32)) v_size v_draftCount y_20 v_fault v_tape v_draft) (fun (w_21 : Int32) (w_22 : Int32) (w_23 : Int32) (w_24 : List Int32) =>
    if x2 = (33 : Int32) then
    (fX2_readOne_93 N go (33 : Int32) v_size w_21 w_22 w_23 v_tape w_24)
    else (fX2_readOne_93 N go (126 : Int32) v_size w_21 w_22 w_23 v_tape w_24)))

set_option maxHeartbeats 4000000 in
set_option maxRecDepth 100000 in
theorem tX2_readOne_62 {p : Program} {l : Launch} {e : Env} {s : State} {m : MethodId} {args : Array Value} {below : List Frame} {meth : Method} {c : Code} {D : va_G} {cI cL cS cH : ClassId} {A : Nat → Prop} {d : Nat} {a : Nat → Nat} {go : Int32 → Int32 → Int32 → Int32 → Int32 → List Int32 → List Int32 → Option (Int32 × Int32 × Int32 × List Int32)} {dgo : Nat} (hgo : ∀ (a : Nat → Nat) (x1 : Int32) (v_size : Int32) (v_stepCount : Int32) (v_draftCount : Int32) (v_place : Int32) (v_fault : Int32) (v_stacked : Int32) (v_tape : List Int32) (v_steps : List Int32) (v_draft : List Int32) (v_stack : List Int32) (w_draftCount : Int32) (w_place : Int32) (w_fault : Int32) (w_draft : List Int32), go x1 v_size v_draftCount v_place v_fault v_tape v_draft = some (w_draftCount, w_place, w_fault, w_draft) → mm_Ct l yX2_readOne cX2_readOne 3 none dgo D (mm_T cI cL cS cH) [.ref (a 0), .int x1] (wd_X2 cI cL cS cH a v_size v_stepCount v_draftCount v_place v_fault v_stacked v_tape v_steps v_draft v_stack) (wd_X2 cI cL cS cH a v_size v_stepCount w_draftCount w_place w_fault v_stacked v_tape v_steps w_draft v_stack) none) (hE : 2 ≤ dgo) (hd : dgo + 6 ≤ d) (C0 : mm_Cx p s m args meth c RX2 cX2_readOne 3 none D (mm_T cI cL cS cH) A) (hA : ∀ q, s.heap.size ≤ q → A q) {v_stepCount : Int32} {v_stacked : Int32} {v_steps : List Int32} {v_stack : List Int32} {w_draftCount : Int32} {w_place : Int32} {w_fault : Int32} {w_draft : List Int32} (N : Nat)  : ∀ (x1 : Int32) (x2 : Int32) (v_size : Int32) (v_draftCount : Int32) (v_place : Int32) (v_fault : Int32) (v_tape : List Int32) (v_draft : List Int32) (H : Heap) (locs : List Loc) (ls : Array Slot), fX2_readOne_62 N go x1 x2 v_size v_draftCount v_place v_fault v_tape v_draft = some (w_draftCount, w_place, w_fault, w_draft) → va_P D mm_cl (wd_X2 cI cL cS cH a v_size v_stepCount v_draftCount v_place v_fault v_stacked v_tape v_steps v_draft v_stack) H → va_D A (wd_X2 cI cL cS cH a v_size v_stepCount v_draftCount v_place v_fault v_stacked v_tape v_steps v_draft v_stack) → va_S A s.heap H locs → lv_has ls 3 [(0, .ref (a 0)), (1, .int x1), (2, .int x2)] → W p l e (mm_rr d) s m args below meth c H locs 0 0 (mm_Z below D A (wd_X2 cI cL cS cH a v_size v_stepCount w_draftCount w_place w_fault v_stacked v_tape v_steps w_draft v_stack) none args s) (F0 m 62 ls []) := by
  obtain ⟨hx, hb, hml, hown, hts, hr, hlocks, hK, hSt⟩ := id C0
  intro x1 x2 v_size v_draftCount v_place v_fault v_tape v_draft H locs ls hf hP hD hS hl
  unfold fX2_readOne_62 at hf
  refine lv_aload_n hx hb dX2_readOne_62 rfl (lv_at hl 0 rfl) ?_
  refine lv_dup hx hb dX2_readOne_63 rfl ?_
  refine mm_get C0 hP iw_X2 0 rfl rfl 6 (by decide) fl_X2_28 rfl dX2_readOne_64 ?_
  refine lv_iconst (v := 1) hx hb dX2_readOne_67 (by decide) ?_
  refine lv_iadd hx hb dX2_readOne_68 ?_
  refine lv_topi (fun y_20 ey_20 => ?_)
  have hf := mm_nms hf ey_20
  refine mm_put C0 hP hD hS iw_X2 tyX2 tyX2_ok nmX2 0 rfl rfl 6 (by decide) fl_X2_28 rfl rfl rfl (Nat.le_of_ble_eq_true rfl) dX2_readOne_69 (w2 := (wd_X2 cI cL cS cH a v_size v_stepCount v_draftCount y_20 v_fault v_stacked v_tape v_steps v_draft v_stack)) rfl (fun H locs hP hD hS => ?_)
  refine lv_aload_n hx hb dX2_readOne_72 rfl (lv_at hl 0 rfl) ?_
  refine lv_iload_n hx hb dX2_readOne_73 rfl (lv_at hl 1 rfl) ?_
  refine lv_iconst (v := 1) hx hb dX2_readOne_74 (by decide) ?_
  refine lv_iadd hx hb dX2_readOne_75 ?_
  obtain ⟨w_21, w_22, w_23, w_24, hc_25, hf⟩ := mm_bd4s hf
  refine mm_callVF (q0 := 0) (ci := 2) (rest := []) C0 lk_X2_79 (hgo a _ _ _ _ _ _ _ _ _ _ _ _ _ _ _ hc_25) (by omega) rfl hl.1 rfl (mm_cat rfl) dX2_readOne_76 hP hD hA hS rfl rfl (fun H locs hP hD hS => ?_)
  refine W.eq (g2 := F0 m 79 ls []) rfl ?_
  refine lv_aload_n hx hb dX2_readOne_79 rfl (lv_at hl 0 rfl) ?_
  refine lv_iload_n hx hb dX2_readOne_80 rfl (lv_at hl 2 rfl) ?_
  refine lv_bipush (v := 33) hx hb dX2_readOne_81 (by decide) ?_
  refine lv_icmp_ne (tgt := 91) hx hb dX2_readOne_83 (by decide) (fun c_26 => ?_) (fun c_26 => ?_)
  · have hf := mm_in hf c_26
    refine lv_bipush (v := 126) hx hb dX2_readOne_91 (by decide) ?_
    exact tX2_readOne_93 hgo hE hd C0 hA N  _ _ _ _ _ _ _ H locs ls hf hP hD hS (lv_sub hl [] rfl)
  · have hf := mm_ip hf c_26
    refine lv_bipush (v := 33) hx hb dX2_readOne_86 (by decide) ?_
    refine lv_goto (tgt := 93) hx hb dX2_readOne_88 (by decide) ?_
    exact tX2_readOne_93 hgo hE hd C0 hA N  _ _ _ _ _ _ _ H locs ls hf hP hD hS (lv_sub hl [] rfl)

def fX2_readOne_157 (N : Nat) (go : Int32 → Int32 → Int32 → Int32 → Int32 → List Int32 → List Int32 → Option (Int32 × Int32 × Int32 × List Int32))  (v_size : Int32) (v_draftCount : Int32) (v_place : Int32) (v_fault : Int32) (v_tape : List Int32) (v_draft : List Int32) : Option (Int32 × Int32 × Int32 × List Int32) :=
    mm_bd1 (fX2_fail N v_place v_fault) (fun (w_44 : Int32) =>
    some (v_draftCount, v_place, w_44, v_draft))

set_option maxHeartbeats 4000000 in
set_option maxRecDepth 100000 in
theorem tX2_readOne_157 {p : Program} {l : Launch} {e : Env} {s : State} {m : MethodId} {args : Array Value} {below : List Frame} {meth : Method} {c : Code} {D : va_G} {cI cL cS cH : ClassId} {A : Nat → Prop} {d : Nat} {a : Nat → Nat} {go : Int32 → Int32 → Int32 → Int32 → Int32 → List Int32 → List Int32 → Option (Int32 × Int32 × Int32 × List Int32)} {dgo : Nat} (hgo : ∀ (a : Nat → Nat) (x1 : Int32) (v_size : Int32) (v_stepCount : Int32) (v_draftCount : Int32) (v_place : Int32) (v_fault : Int32) (v_stacked : Int32) (v_tape : List Int32) (v_steps : List Int32) (v_draft : List Int32) (v_stack : List Int32) (w_draftCount : Int32) (w_place : Int32) (w_fault : Int32) (w_draft : List Int32), go x1 v_size v_draftCount v_place v_fault v_tape v_draft = some (w_draftCount, w_place, w_fault, w_draft) → mm_Ct l yX2_readOne cX2_readOne 3 none dgo D (mm_T cI cL cS cH) [.ref (a 0), .int x1] (wd_X2 cI cL cS cH a v_size v_stepCount v_draftCount v_place v_fault v_stacked v_tape v_steps v_draft v_stack) (wd_X2 cI cL cS cH a v_size v_stepCount w_draftCount w_place w_fault v_stacked v_tape v_steps w_draft v_stack) none) (hE : 2 ≤ dgo) (hd : dgo + 6 ≤ d) (C0 : mm_Cx p s m args meth c RX2 cX2_readOne 3 none D (mm_T cI cL cS cH) A) (hA : ∀ q, s.heap.size ≤ q → A q) {v_stepCount : Int32} {v_stacked : Int32} {v_steps : List Int32} {v_stack : List Int32} {w_draftCount : Int32} {w_place : Int32} {w_fault : Int32} {w_draft : List Int32} (N : Nat)  : ∀ (v_size : Int32) (v_draftCount : Int32) (v_place : Int32) (v_fault : Int32) (v_tape : List Int32) (v_draft : List Int32) (H : Heap) (locs : List Loc) (ls : Array Slot), fX2_readOne_157 N go v_size v_draftCount v_place v_fault v_tape v_draft = some (w_draftCount, w_place, w_fault, w_draft) → va_P D mm_cl (wd_X2 cI cL cS cH a v_size v_stepCount v_draftCount v_place v_fault v_stacked v_tape v_steps v_draft v_stack) H → va_D A (wd_X2 cI cL cS cH a v_size v_stepCount v_draftCount v_place v_fault v_stacked v_tape v_steps v_draft v_stack) → va_S A s.heap H locs → lv_has ls 3 [(0, .ref (a 0))] → W p l e (mm_rr d) s m args below meth c H locs 0 0 (mm_Z below D A (wd_X2 cI cL cS cH a v_size v_stepCount w_draftCount w_place w_fault v_stacked v_tape v_steps w_draft v_stack) none args s) (F0 m 157 ls []) := by
  obtain ⟨hx, hb, hml, hown, hts, hr, hlocks, hK, hSt⟩ := id C0
  intro v_size v_draftCount v_place v_fault v_tape v_draft H locs ls hf hP hD hS hl
  unfold fX2_readOne_157 at hf
  refine lv_aload_n hx hb dX2_readOne_157 rfl (lv_at hl 0 rfl) ?_
  obtain ⟨w_44, hc_45, hf⟩ := mm_bd1s hf
  refine mm_callVF (q0 := 0) (ci := 2) (rest := []) C0 lk_X2_44 (ctX2_fail (a := a) (d := d - 1) (by omega) hc_45) (by omega) rfl hl.1 rfl (mm_cat rfl) dX2_readOne_158 hP hD hA hS rfl rfl (fun H locs hP hD hS => ?_)
  refine W.eq (g2 := F0 m 161 ls []) rfl ?_
  apply mm_sub4 hf
  exact mm_vret C0 hP hD hS dX2_readOne_161

def fX2_readOne_99 (N : Nat) (go : Int32 → Int32 → Int32 → Int32 → Int32 → List Int32 → List Int32 → Option (Int32 × Int32 × Int32 × List Int32))  (x1 : Int32) (x2 : Int32) (v_size : Int32) (v_draftCount : Int32) (v_place : Int32) (v_fault : Int32) (v_tape : List Int32) (v_draft : List Int32) : Option (Int32 × Int32 × Int32 × List Int32) :=
    if (6 : Int32) ≤ x1 then
    (fX2_readOne_157 N go v_size v_draftCount v_place v_fault v_tape v_draft)
    else (if x2 = (40 : Int32) then
    (mm_nm ((v_place + (1 : Int32))) (fun (y_32 : Int32) =>
    mm_bd4 (fX2_readEither N go (x1 + (1 : Int32)) v_size v_draftCount y_32 v_fault v_tape v_draft) (fun (w_33 : Int32) (w_34 : Int32) (w_35 : Int32) (w_36 : List Int32) =>
    mm_bd1 (fX2_meets N (41 : Int32) v_size w_34 w_35 v_tape) (fun (r_38 : Bool) =>
    if r_38 = false then
    (mm_bd1 (fX2_fail N w_34 w_35) (fun (w_41 : Int32) =>
    some (w_33, w_34, w_41, w_36)))
    else (mm_nm ((w_34 + (1 : Int32))) (fun (y_43 : Int32) =>
    some (w_33, y_43, w_35, w_36)))))))
    else (fX2_readOne_157 N go v_size v_draftCount v_place v_fault v_tape v_draft))

set_option maxHeartbeats 4000000 in
set_option maxRecDepth 100000 in
theorem tX2_readOne_99 {p : Program} {l : Launch} {e : Env} {s : State} {m : MethodId} {args : Array Value} {below : List Frame} {meth : Method} {c : Code} {D : va_G} {cI cL cS cH : ClassId} {A : Nat → Prop} {d : Nat} {a : Nat → Nat} {go : Int32 → Int32 → Int32 → Int32 → Int32 → List Int32 → List Int32 → Option (Int32 × Int32 × Int32 × List Int32)} {dgo : Nat} (hgo : ∀ (a : Nat → Nat) (x1 : Int32) (v_size : Int32) (v_stepCount : Int32) (v_draftCount : Int32) (v_place : Int32) (v_fault : Int32) (v_stacked : Int32) (v_tape : List Int32) (v_steps : List Int32) (v_draft : List Int32) (v_stack : List Int32) (w_draftCount : Int32) (w_place : Int32) (w_fault : Int32) (w_draft : List Int32), go x1 v_size v_draftCount v_place v_fault v_tape v_draft = some (w_draftCount, w_place, w_fault, w_draft) → mm_Ct l yX2_readOne cX2_readOne 3 none dgo D (mm_T cI cL cS cH) [.ref (a 0), .int x1] (wd_X2 cI cL cS cH a v_size v_stepCount v_draftCount v_place v_fault v_stacked v_tape v_steps v_draft v_stack) (wd_X2 cI cL cS cH a v_size v_stepCount w_draftCount w_place w_fault v_stacked v_tape v_steps w_draft v_stack) none) (hE : 2 ≤ dgo) (hd : dgo + 6 ≤ d) (C0 : mm_Cx p s m args meth c RX2 cX2_readOne 3 none D (mm_T cI cL cS cH) A) (hA : ∀ q, s.heap.size ≤ q → A q) {v_stepCount : Int32} {v_stacked : Int32} {v_steps : List Int32} {v_stack : List Int32} {w_draftCount : Int32} {w_place : Int32} {w_fault : Int32} {w_draft : List Int32} (N : Nat)  : ∀ (x1 : Int32) (x2 : Int32) (v_size : Int32) (v_draftCount : Int32) (v_place : Int32) (v_fault : Int32) (v_tape : List Int32) (v_draft : List Int32) (H : Heap) (locs : List Loc) (ls : Array Slot), fX2_readOne_99 N go x1 x2 v_size v_draftCount v_place v_fault v_tape v_draft = some (w_draftCount, w_place, w_fault, w_draft) → va_P D mm_cl (wd_X2 cI cL cS cH a v_size v_stepCount v_draftCount v_place v_fault v_stacked v_tape v_steps v_draft v_stack) H → va_D A (wd_X2 cI cL cS cH a v_size v_stepCount v_draftCount v_place v_fault v_stacked v_tape v_steps v_draft v_stack) → va_S A s.heap H locs → lv_has ls 3 [(0, .ref (a 0)), (1, .int x1), (2, .int x2)] → W p l e (mm_rr d) s m args below meth c H locs 0 0 (mm_Z below D A (wd_X2 cI cL cS cH a v_size v_stepCount w_draftCount w_place w_fault v_stacked v_tape v_steps w_draft v_stack) none args s) (F0 m 99 ls []) := by
  obtain ⟨hx, hb, hml, hown, hts, hr, hlocks, hK, hSt⟩ := id C0
  intro x1 x2 v_size v_draftCount v_place v_fault v_tape v_draft H locs ls hf hP hD hS hl
  unfold fX2_readOne_99 at hf
  refine lv_iload_n hx hb dX2_readOne_99 rfl (lv_at hl 1 rfl) ?_
  refine lv_bipush (v := 6) hx hb dX2_readOne_100 (by decide) ?_
  refine lv_icmp_ge (tgt := 157) hx hb dX2_readOne_102 (by decide) (fun c_30 => ?_) (fun c_30 => ?_)
  · have hf := mm_ip hf c_30
    exact tX2_readOne_157 hgo hE hd C0 hA N  _ _ _ _ _ _ H locs ls hf hP hD hS (lv_sub hl [0] rfl)
  · have hf := mm_in hf c_30
    refine lv_iload_n hx hb dX2_readOne_105 rfl (lv_at hl 2 rfl) ?_
    refine lv_bipush (v := 40) hx hb dX2_readOne_106 (by decide) ?_
    refine lv_icmp_ne (tgt := 157) hx hb dX2_readOne_108 (by decide) (fun c_31 => ?_) (fun c_31 => ?_)
    · have hf := mm_in hf c_31
      exact tX2_readOne_157 hgo hE hd C0 hA N  _ _ _ _ _ _ H locs ls hf hP hD hS (lv_sub hl [0] rfl)
    · have hf := mm_ip hf c_31
      refine lv_aload_n hx hb dX2_readOne_111 rfl (lv_at hl 0 rfl) ?_
      refine lv_dup hx hb dX2_readOne_112 rfl ?_
      refine mm_get C0 hP iw_X2 0 rfl rfl 6 (by decide) fl_X2_28 rfl dX2_readOne_113 ?_
      refine lv_iconst (v := 1) hx hb dX2_readOne_116 (by decide) ?_
      refine lv_iadd hx hb dX2_readOne_117 ?_
      refine lv_topi (fun y_32 ey_32 => ?_)
      have hf := mm_nms hf ey_32
      refine mm_put C0 hP hD hS iw_X2 tyX2 tyX2_ok nmX2 0 rfl rfl 6 (by decide) fl_X2_28 rfl rfl rfl (Nat.le_of_ble_eq_true rfl) dX2_readOne_118 (w2 := (wd_X2 cI cL cS cH a v_size v_stepCount v_draftCount y_32 v_fault v_stacked v_tape v_steps v_draft v_stack)) rfl (fun H locs hP hD hS => ?_)
      refine lv_aload_n hx hb dX2_readOne_121 rfl (lv_at hl 0 rfl) ?_
      refine lv_iload_n hx hb dX2_readOne_122 rfl (lv_at hl 1 rfl) ?_
      refine lv_iconst (v := 1) hx hb dX2_readOne_123 (by decide) ?_
      refine lv_iadd hx hb dX2_readOne_124 ?_
      obtain ⟨w_33, w_34, w_35, w_36, hc_37, hf⟩ := mm_bd4s hf
      refine mm_callVF (q0 := 0) (ci := 2) (rest := []) C0 lk_X2_56 (ctX2_readEither (a := a) (d := d - 1) hgo hE (by omega) hc_37) (by omega) rfl hl.1 rfl (mm_cat rfl) dX2_readOne_125 hP hD hA hS rfl rfl (fun H locs hP hD hS => ?_)
      refine W.eq (g2 := F0 m 128 ls []) rfl ?_
      refine lv_aload_n hx hb dX2_readOne_128 rfl (lv_at hl 0 rfl) ?_
      refine lv_bipush (v := 41) hx hb dX2_readOne_129 (by decide) ?_
      obtain ⟨r_38, hc_39, hf⟩ := mm_bd1s hf
      refine mm_callVF (q0 := 0) (ci := 2) (rest := []) C0 lk_X2_40 (ctX2_meets (a := a) (d := d - 1) (by omega) hc_39) (by omega) rfl hl.1 rfl (mm_cat rfl) dX2_readOne_131 hP hD hA hS rfl rfl (fun H locs hP hD hS => ?_)
      refine W.eq (g2 := F0 m 134 ls [.int (mm_b r_38)]) rfl ?_
      refine lv_if_eq (tgt := 150) hx hb dX2_readOne_134 (by decide) (fun c_40 => ?_) (fun c_40 => ?_)
      · have hf := mm_ip hf (mm_b0 c_40)
        refine lv_aload_n hx hb dX2_readOne_150 rfl (lv_at hl 0 rfl) ?_
        obtain ⟨w_41, hc_42, hf⟩ := mm_bd1s hf
        refine mm_callVF (q0 := 0) (ci := 2) (rest := []) C0 lk_X2_44 (ctX2_fail (a := a) (d := d - 1) (by omega) hc_42) (by omega) rfl hl.1 rfl (mm_cat rfl) dX2_readOne_151 hP hD hA hS rfl rfl (fun H locs hP hD hS => ?_)
        refine W.eq (g2 := F0 m 154 ls []) rfl ?_
        refine lv_goto (tgt := 161) hx hb dX2_readOne_154 (by decide) ?_
        apply mm_sub4 hf
        exact mm_vret C0 hP hD hS dX2_readOne_161
      · have hf := mm_in hf (mm_b1 c_40)
        refine lv_aload_n hx hb dX2_readOne_137 rfl (lv_at hl 0 rfl) ?_
        refine lv_dup hx hb dX2_readOne_138 rfl ?_
        refine mm_get C0 hP iw_X2 0 rfl rfl 6 (by decide) fl_X2_28 rfl dX2_readOne_139 ?_
        refine lv_iconst (v := 1) hx hb dX2_readOne_142 (by decide) ?_
        refine lv_iadd hx hb dX2_readOne_143 ?_
        refine lv_topi (fun y_43 ey_43 => ?_)
        have hf := mm_nms hf ey_43
        refine mm_put C0 hP hD hS iw_X2 tyX2 tyX2_ok nmX2 0 rfl rfl 6 (by decide) fl_X2_28 rfl rfl rfl (Nat.le_of_ble_eq_true rfl) dX2_readOne_144 (w2 := (wd_X2 cI cL cS cH a v_size v_stepCount w_33 y_43 w_35 v_stacked v_tape v_steps w_36 v_stack)) rfl (fun H locs hP hD hS => ?_)
        refine lv_goto (tgt := 161) hx hb dX2_readOne_147 (by decide) ?_
        apply mm_sub4 hf
        exact mm_vret C0 hP hD hS dX2_readOne_161

def fX2_readOneo (N : Nat) (go : Int32 → Int32 → Int32 → Int32 → Int32 → List Int32 → List Int32 → Option (Int32 × Int32 × Int32 × List Int32)) (x1 : Int32) (v_size : Int32) (v_draftCount : Int32) (v_place : Int32) (v_fault : Int32) (v_tape : List Int32) (v_draft : List Int32) : Option (Int32 × Int32 × Int32 × List Int32) :=
    mm_bd1 (fX2_next N v_size v_place v_tape) (fun (r_1 : Int32) =>
    mm_bd1 (fX2_isDigit N r_1) (fun (r_3 : Bool) =>
    if r_3 = false then
    (mm_bd1 (fX2_isName N r_1) (fun (r_6 : Bool) =>
    if r_6 = false then
    (if (6 : Int32) ≤ x1 then
    (fX2_readOne_99 N go x1 r_1 v_size v_draftCount v_place v_fault v_tape v_draft)
    else (if r_1 = (33 : Int32) then
    (fX2_readOne_62 N go x1 r_1 v_size v_draftCount v_place v_fault v_tape v_draft)
    else (if r_1 = (45 : Int32) then
    (fX2_readOne_62 N go x1 r_1 v_size v_draftCount v_place v_fault v_tape v_draft)
    else (fX2_readOne_99 N go x1 r_1 v_size v_draftCount v_place v_fault v_tape v_draft))))
    else (mm_nm ((v_place + (1 : Int32))) (fun (y_12 : Int32) =>
    mm_bd2 (fX2_note N r_1 v_draftCount v_draft) (fun (w_13 : Int32) (w_14 : List Int32) =>
    some (w_13, y_12, v_fault, w_14))))))
    else (mm_bd3 (fX2_readNumber N v_size v_draftCount v_place v_tape v_draft) (fun (w_16 : Int32) (w_17 : Int32) (w_18 : List Int32) =>
    some (w_16, w_17, v_fault, w_18)))))

set_option maxHeartbeats 4000000 in
set_option maxRecDepth 100000 in
theorem ctX2_readOneo {l : Launch} {D : va_G} {cI cL cS cH : ClassId} {a : Nat → Nat} {x1 : Int32} {v_size : Int32} {v_stepCount : Int32} {v_draftCount : Int32} {v_place : Int32} {v_fault : Int32} {v_stacked : Int32} {v_tape : List Int32} {v_steps : List Int32} {v_draft : List Int32} {v_stack : List Int32} {w_draftCount : Int32} {w_place : Int32} {w_fault : Int32} {w_draft : List Int32} {N d : Nat} {go : Int32 → Int32 → Int32 → Int32 → Int32 → List Int32 → List Int32 → Option (Int32 × Int32 × Int32 × List Int32)} {dgo : Nat} (hgo : ∀ (a : Nat → Nat) (x1 : Int32) (v_size : Int32) (v_stepCount : Int32) (v_draftCount : Int32) (v_place : Int32) (v_fault : Int32) (v_stacked : Int32) (v_tape : List Int32) (v_steps : List Int32) (v_draft : List Int32) (v_stack : List Int32) (w_draftCount : Int32) (w_place : Int32) (w_fault : Int32) (w_draft : List Int32), go x1 v_size v_draftCount v_place v_fault v_tape v_draft = some (w_draftCount, w_place, w_fault, w_draft) → mm_Ct l yX2_readOne cX2_readOne 3 none dgo D (mm_T cI cL cS cH) [.ref (a 0), .int x1] (wd_X2 cI cL cS cH a v_size v_stepCount v_draftCount v_place v_fault v_stacked v_tape v_steps v_draft v_stack) (wd_X2 cI cL cS cH a v_size v_stepCount w_draftCount w_place w_fault v_stacked v_tape v_steps w_draft v_stack) none) (hE : 2 ≤ dgo) (hd : dgo + 6 ≤ d) (hf : fX2_readOneo N go x1 v_size v_draftCount v_place v_fault v_tape v_draft = some (w_draftCount, w_place, w_fault, w_draft)) : mm_Ct l yX2_readOne cX2_readOne 3 none d D (mm_T cI cL cS cH) [.ref (a 0), .int x1] (wd_X2 cI cL cS cH a v_size v_stepCount v_draftCount v_place v_fault v_stacked v_tape v_steps v_draft v_stack) (wd_X2 cI cL cS cH a v_size v_stepCount w_draftCount w_place w_fault v_stacked v_tape v_steps w_draft v_stack) none := by
  refine mm_of (by decide) (Nat.le_of_ble_eq_true rfl) ?_
  intro p e s m args below meth c A H locs ls C0 hP hD hA hS hl
  have C0 : mm_Cx p s m args meth c RX2 cX2_readOne 3 none D (mm_T cI cL cS cH) A := C0
  obtain ⟨hx, hb, hml, hown, hts, hr, hlocks, hK, hSt⟩ := id C0
  have hl : lv_has ls 3 [(0, .ref (a 0)), (1, .int x1)] := hl
  unfold fX2_readOneo at hf
  refine lv_aload_n hx hb dX2_readOne_0 rfl (lv_at hl 0 rfl) ?_
  obtain ⟨r_1, hc_2, hf⟩ := mm_bd1s hf
  refine mm_callVF (q0 := 0) (ci := 2) (rest := []) C0 lk_X2_72 (ctX2_next (a := a) (d := d - 1) (by omega) hc_2) (by omega) rfl hl.1 rfl (mm_cat rfl) dX2_readOne_1 hP hD hA hS rfl rfl (fun H locs hP hD hS => ?_)
  refine W.eq (g2 := F0 m 4 ls [.int r_1]) rfl ?_
  refine lv_istore_n (lv' := [(2, .int r_1), (0, .ref (a 0)), (1, .int x1)]) hx hb dX2_readOne_4 rfl hl (by decide) rfl (fun ls hl => ?_)
  refine lv_iload_n hx hb dX2_readOne_5 rfl (lv_at hl 0 rfl) ?_
  obtain ⟨r_3, hc_4, hf⟩ := mm_bd1s hf
  refine mm_callS0 (rest := []) C0 lk_X2_82 (ctX2_isDigit (d := d - 1) (by omega) hc_4) (by omega) rfl hl.1 rfl (mm_cat rfl) dX2_readOne_6 hP hD hA hS (fun H locs hP hS => ?_)
  refine W.eq (g2 := F0 m 9 ls [.int (mm_b r_3)]) rfl ?_
  refine lv_if_eq (tgt := 19) hx hb dX2_readOne_9 (by decide) (fun c_5 => ?_) (fun c_5 => ?_)
  · have hf := mm_ip hf (mm_b0 c_5)
    refine lv_iload_n hx hb dX2_readOne_19 rfl (lv_at hl 0 rfl) ?_
    obtain ⟨r_6, hc_7, hf⟩ := mm_bd1s hf
    refine mm_callS0 (rest := []) C0 lk_X2_88 (ctX2_isName (d := d - 1) (by omega) hc_7) (by omega) rfl hl.1 rfl (mm_cat rfl) dX2_readOne_20 hP hD hA hS (fun H locs hP hS => ?_)
    refine W.eq (g2 := F0 m 23 ls [.int (mm_b r_6)]) rfl ?_
    refine lv_if_eq (tgt := 44) hx hb dX2_readOne_23 (by decide) (fun c_8 => ?_) (fun c_8 => ?_)
    · have hf := mm_ip hf (mm_b0 c_8)
      refine lv_iload_n hx hb dX2_readOne_44 rfl (lv_at hl 2 rfl) ?_
      refine lv_bipush (v := 6) hx hb dX2_readOne_45 (by decide) ?_
      refine lv_icmp_ge (tgt := 99) hx hb dX2_readOne_47 (by decide) (fun c_9 => ?_) (fun c_9 => ?_)
      · have hf := mm_ip hf c_9
        exact tX2_readOne_99 hgo hE hd C0 hA N  _ _ _ _ _ _ _ _ H locs ls hf hP hD hS (lv_sub hl [1, 2, 0] rfl)
      · have hf := mm_in hf c_9
        refine lv_iload_n hx hb dX2_readOne_50 rfl (lv_at hl 0 rfl) ?_
        refine lv_bipush (v := 33) hx hb dX2_readOne_51 (by decide) ?_
        refine lv_icmp_eq (tgt := 62) hx hb dX2_readOne_53 (by decide) (fun c_10 => ?_) (fun c_10 => ?_)
        · have hf := mm_ip hf c_10
          exact tX2_readOne_62 hgo hE hd C0 hA N  _ _ _ _ _ _ _ _ H locs ls hf hP hD hS (lv_sub hl [1, 2, 0] rfl)
        · have hf := mm_in hf c_10
          refine lv_iload_n hx hb dX2_readOne_56 rfl (lv_at hl 0 rfl) ?_
          refine lv_bipush (v := 45) hx hb dX2_readOne_57 (by decide) ?_
          refine lv_icmp_ne (tgt := 99) hx hb dX2_readOne_59 (by decide) (fun c_11 => ?_) (fun c_11 => ?_)
          · have hf := mm_in hf c_11
            exact tX2_readOne_99 hgo hE hd C0 hA N  _ _ _ _ _ _ _ _ H locs ls hf hP hD hS (lv_sub hl [1, 2, 0] rfl)
          · have hf := mm_ip hf c_11
            exact tX2_readOne_62 hgo hE hd C0 hA N  _ _ _ _ _ _ _ _ H locs ls hf hP hD hS (lv_sub hl [1, 2, 0] rfl)
    · have hf := mm_in hf (mm_b1 c_8)
      refine lv_aload_n hx hb dX2_readOne_26 rfl (lv_at hl 1 rfl) ?_
      refine lv_dup hx hb dX2_readOne_27 rfl ?_
      refine mm_get C0 hP iw_X2 0 rfl rfl 6 (by decide) fl_X2_28 rfl dX2_readOne_28 ?_
      refine lv_iconst (v := 1) hx hb dX2_readOne_31 (by decide) ?_
      refine lv_iadd hx hb dX2_readOne_32 ?_
      refine lv_topi (fun y_12 ey_12 => ?_)
      have hf := mm_nms hf ey_12
      refine mm_put C0 hP hD hS iw_X2 tyX2 tyX2_ok nmX2 0 rfl rfl 6 (by decide) fl_X2_28 rfl rfl rfl (Nat.le_of_ble_eq_true rfl) dX2_readOne_33 (w2 := (wd_X2 cI cL cS cH a v_size v_stepCount v_draftCount y_12 v_fault v_stacked v_tape v_steps v_draft v_stack)) rfl (fun H locs hP hD hS => ?_)
      refine lv_aload_n hx hb dX2_readOne_36 rfl (lv_at hl 1 rfl) ?_
      refine lv_iload_n hx hb dX2_readOne_37 rfl (lv_at hl 0 rfl) ?_
      obtain ⟨w_13, w_14, hc_15, hf⟩ := mm_bd2s hf
      refine mm_callVF (q0 := 0) (ci := 2) (rest := []) C0 lk_X2_60 (ctX2_note (a := a) (d := d - 1) (by omega) hc_15) (by omega) rfl hl.1 rfl (mm_cat rfl) dX2_readOne_38 hP hD hA hS rfl rfl (fun H locs hP hD hS => ?_)
      refine W.eq (g2 := F0 m 41 ls []) rfl ?_
      refine lv_goto (tgt := 161) hx hb dX2_readOne_41 (by decide) ?_
      apply mm_sub4 hf
      exact mm_vret C0 hP hD hS dX2_readOne_161
  · have hf := mm_in hf (mm_b1 c_5)
    refine lv_aload_n hx hb dX2_readOne_12 rfl (lv_at hl 1 rfl) ?_
    obtain ⟨w_16, w_17, w_18, hc_19, hf⟩ := mm_bd3s hf
    refine mm_callVF (q0 := 0) (ci := 2) (rest := []) C0 lk_X2_85 (ctX2_readNumber (a := a) (d := d - 1) (by omega) hc_19) (by omega) rfl hl.1 rfl (mm_cat rfl) dX2_readOne_13 hP hD hA hS rfl rfl (fun H locs hP hD hS => ?_)
    refine W.eq (g2 := F0 m 16 ls []) rfl ?_
    refine lv_goto (tgt := 161) hx hb dX2_readOne_16 (by decide) ?_
    apply mm_sub4 hf
    exact mm_vret C0 hP hD hS dX2_readOne_161

def fX2_readOne (N : Nat) : Nat → Int32 → Int32 → Int32 → Int32 → Int32 → List Int32 → List Int32 → Option (Int32 × Int32 × Int32 × List Int32)
  | 0 => fun _ _ _ _ _ _ _ => none
  | M + 1 => fX2_readOneo N (fX2_readOne N M)
set_option maxHeartbeats 4000000 in
set_option maxRecDepth 100000 in
theorem ctX2_readOne {l : Launch} {D : va_G} {cI cL cS cH : ClassId} {N : Nat} : ∀ (M d : Nat), 2 + 6 * M ≤ d → ∀ (a : Nat → Nat) (x1 : Int32) (v_size : Int32) (v_stepCount : Int32) (v_draftCount : Int32) (v_place : Int32) (v_fault : Int32) (v_stacked : Int32) (v_tape : List Int32) (v_steps : List Int32) (v_draft : List Int32) (v_stack : List Int32) (w_draftCount : Int32) (w_place : Int32) (w_fault : Int32) (w_draft : List Int32), fX2_readOne N M x1 v_size v_draftCount v_place v_fault v_tape v_draft = some (w_draftCount, w_place, w_fault, w_draft) → mm_Ct l yX2_readOne cX2_readOne 3 none d D (mm_T cI cL cS cH) [.ref (a 0), .int x1] (wd_X2 cI cL cS cH a v_size v_stepCount v_draftCount v_place v_fault v_stacked v_tape v_steps v_draft v_stack) (wd_X2 cI cL cS cH a v_size v_stepCount w_draftCount w_place w_fault v_stacked v_tape v_steps w_draft v_stack) none := by
  intro M
  induction M with
  | zero =>
    intro d hd a x1 v_size v_stepCount v_draftCount v_place v_fault v_stacked v_tape v_steps v_draft v_stack w_draftCount w_place w_fault w_draft hf
    cases (show none = some _ from hf)
  | succ M ih =>
    intro d hd a x1 v_size v_stepCount v_draftCount v_place v_fault v_stacked v_tape v_steps v_draft v_stack w_draftCount w_place w_fault w_draft hf
    exact ctX2_readOneo (N := N) (ih (2 + 6 * M) (Nat.le_refl _)) (Nat.le_add_right _ _) (by omega) hf

theorem nb_dX2_readLine_0 : bls_w cX2_readLine [(0, [42]), (1, [3]), (2, [182, 0, 56]), (5, [42]), (6, [16, 63]), (8, [182, 0, 40]), (11, [153, 0, 24]), (14, [42]), (15, [89]), (16, [180, 0, 28]), (19, [4]), (20, [96])] := bls_of (by decide +kernel)
theorem dX2_readLine_0 : decode cX2_readLine 0 = .ok (.aload_n 0, 1) := op_42 nb_dX2_readLine_0.1
theorem dX2_readLine_1 : decode cX2_readLine 1 = .ok (.iconst 0, 1) := op_3 nb_dX2_readLine_0.2.1
set_option maxRecDepth 100000 in
theorem dX2_readLine_2 : decode cX2_readLine 2 = .ok (.invokevirtual 56, 3) := (op_182 nb_dX2_readLine_0.2.2.1).trans rfl
theorem dX2_readLine_5 : decode cX2_readLine 5 = .ok (.aload_n 0, 1) := op_42 nb_dX2_readLine_0.2.2.2.1
set_option maxRecDepth 100000 in
theorem dX2_readLine_6 : decode cX2_readLine 6 = .ok (.bipush 63, 2) := (op_16 nb_dX2_readLine_0.2.2.2.2.1).trans rfl
set_option maxRecDepth 100000 in
theorem dX2_readLine_8 : decode cX2_readLine 8 = .ok (.invokevirtual 40, 3) := (op_182 nb_dX2_readLine_0.2.2.2.2.2.1).trans rfl
set_option maxRecDepth 100000 in
theorem dX2_readLine_11 : decode cX2_readLine 11 = .ok (.ifCond .eq 24, 3) := (op_153 nb_dX2_readLine_0.2.2.2.2.2.2.1).trans rfl
theorem dX2_readLine_14 : decode cX2_readLine 14 = .ok (.aload_n 0, 1) := op_42 nb_dX2_readLine_0.2.2.2.2.2.2.2.1
theorem dX2_readLine_15 : decode cX2_readLine 15 = .ok (.dup, 1) := op_89 nb_dX2_readLine_0.2.2.2.2.2.2.2.2.1
set_option maxRecDepth 100000 in
theorem dX2_readLine_16 : decode cX2_readLine 16 = .ok (.getfield 28, 3) := (op_180 nb_dX2_readLine_0.2.2.2.2.2.2.2.2.2.1).trans rfl
theorem dX2_readLine_19 : decode cX2_readLine 19 = .ok (.iconst 1, 1) := op_4 nb_dX2_readLine_0.2.2.2.2.2.2.2.2.2.2.1
theorem dX2_readLine_20 : decode cX2_readLine 20 = .ok (.iadd, 1) := op_96 nb_dX2_readLine_0.2.2.2.2.2.2.2.2.2.2.2.1
theorem nb_dX2_readLine_21 : bls_w cX2_readLine [(21, [181, 0, 28]), (24, [42]), (25, [16, 63]), (27, [182, 0, 60]), (30, [42]), (31, [3]), (32, [182, 0, 56]), (35, [42]), (36, [16, 59]), (38, [182, 0, 60]), (41, [177])] := bls_of (by decide +kernel)
set_option maxRecDepth 100000 in
theorem dX2_readLine_21 : decode cX2_readLine 21 = .ok (.putfield 28, 3) := (op_181 nb_dX2_readLine_21.1).trans rfl
theorem dX2_readLine_24 : decode cX2_readLine 24 = .ok (.aload_n 0, 1) := op_42 nb_dX2_readLine_21.2.1
set_option maxRecDepth 100000 in
theorem dX2_readLine_25 : decode cX2_readLine 25 = .ok (.bipush 63, 2) := (op_16 nb_dX2_readLine_21.2.2.1).trans rfl
set_option maxRecDepth 100000 in
theorem dX2_readLine_27 : decode cX2_readLine 27 = .ok (.invokevirtual 60, 3) := (op_182 nb_dX2_readLine_21.2.2.2.1).trans rfl
theorem dX2_readLine_30 : decode cX2_readLine 30 = .ok (.aload_n 0, 1) := op_42 nb_dX2_readLine_21.2.2.2.2.1
theorem dX2_readLine_31 : decode cX2_readLine 31 = .ok (.iconst 0, 1) := op_3 nb_dX2_readLine_21.2.2.2.2.2.1
set_option maxRecDepth 100000 in
theorem dX2_readLine_32 : decode cX2_readLine 32 = .ok (.invokevirtual 56, 3) := (op_182 nb_dX2_readLine_21.2.2.2.2.2.2.1).trans rfl
theorem dX2_readLine_35 : decode cX2_readLine 35 = .ok (.aload_n 0, 1) := op_42 nb_dX2_readLine_21.2.2.2.2.2.2.2.1
set_option maxRecDepth 100000 in
theorem dX2_readLine_36 : decode cX2_readLine 36 = .ok (.bipush 59, 2) := (op_16 nb_dX2_readLine_21.2.2.2.2.2.2.2.2.1).trans rfl
set_option maxRecDepth 100000 in
theorem dX2_readLine_38 : decode cX2_readLine 38 = .ok (.invokevirtual 60, 3) := (op_182 nb_dX2_readLine_21.2.2.2.2.2.2.2.2.2.1).trans rfl
theorem dX2_readLine_41 : decode cX2_readLine 41 = .ok (.return_, 1) := op_177 nb_dX2_readLine_21.2.2.2.2.2.2.2.2.2.2.1
def fX2_readLine_35 (N : Nat)  (v_size : Int32) (v_draftCount : Int32) (v_place : Int32) (v_fault : Int32) (v_tape : List Int32) (v_draft : List Int32) : Option (Int32 × Int32 × Int32 × List Int32) :=
    mm_bd2 (fX2_note N (59 : Int32) v_draftCount v_draft) (fun (w_18 : Int32) (w_19 : List Int32) =>
    some (w_18, v_place, v_fault, w_19))

set_option maxHeartbeats 4000000 in
set_option maxRecDepth 100000 in
theorem tX2_readLine_35 {p : Program} {l : Launch} {e : Env} {s : State} {m : MethodId} {args : Array Value} {below : List Frame} {meth : Method} {c : Code} {D : va_G} {cI cL cS cH : ClassId} {A : Nat → Prop} {d : Nat} {a : Nat → Nat} (hd : 56 ≤ d) (C0 : mm_Cx p s m args meth c RX2 cX2_readLine 1 none D (mm_T cI cL cS cH) A) (hA : ∀ q, s.heap.size ≤ q → A q) {v_stepCount : Int32} {v_stacked : Int32} {v_steps : List Int32} {v_stack : List Int32} {w_draftCount : Int32} {w_place : Int32} {w_fault : Int32} {w_draft : List Int32} (N : Nat)  : ∀ (v_size : Int32) (v_draftCount : Int32) (v_place : Int32) (v_fault : Int32) (v_tape : List Int32) (v_draft : List Int32) (H : Heap) (locs : List Loc) (ls : Array Slot), fX2_readLine_35 N v_size v_draftCount v_place v_fault v_tape v_draft = some (w_draftCount, w_place, w_fault, w_draft) → va_P D mm_cl (wd_X2 cI cL cS cH a v_size v_stepCount v_draftCount v_place v_fault v_stacked v_tape v_steps v_draft v_stack) H → va_D A (wd_X2 cI cL cS cH a v_size v_stepCount v_draftCount v_place v_fault v_stacked v_tape v_steps v_draft v_stack) → va_S A s.heap H locs → lv_has ls 1 [(0, .ref (a 0))] → W p l e (mm_rr d) s m args below meth c H locs 0 0 (mm_Z below D A (wd_X2 cI cL cS cH a v_size v_stepCount w_draftCount w_place w_fault v_stacked v_tape v_steps w_draft v_stack) none args s) (F0 m 35 ls []) := by
  obtain ⟨hx, hb, hml, hown, hts, hr, hlocks, hK, hSt⟩ := id C0
  intro v_size v_draftCount v_place v_fault v_tape v_draft H locs ls hf hP hD hS hl
  unfold fX2_readLine_35 at hf
  refine lv_aload_n hx hb dX2_readLine_35 rfl (lv_at hl 0 rfl) ?_
  refine lv_bipush (v := 59) hx hb dX2_readLine_36 (by decide) ?_
  obtain ⟨w_18, w_19, hc_20, hf⟩ := mm_bd2s hf
  refine mm_callVF (q0 := 0) (ci := 2) (rest := []) C0 lk_X2_60 (ctX2_note (a := a) (d := d - 1) (by omega) hc_20) (by omega) rfl hl.1 rfl (mm_cat rfl) dX2_readLine_38 hP hD hA hS rfl rfl (fun H locs hP hD hS => ?_)
  refine W.eq (g2 := F0 m 41 ls []) rfl ?_
  apply mm_sub4 hf
  exact mm_vret C0 hP hD hS dX2_readLine_41

def fX2_readLine (N : Nat) (v_size : Int32) (v_draftCount : Int32) (v_place : Int32) (v_fault : Int32) (v_tape : List Int32) (v_draft : List Int32) : Option (Int32 × Int32 × Int32 × List Int32) :=
    mm_bd4 (fX2_readEither N (fX2_readOne N 8) (0 : Int32) v_size v_draftCount v_place v_fault v_tape v_draft) (fun (w_1 : Int32) (w_2 : Int32) (w_3 : Int32) (w_4 : List Int32) =>
    mm_bd1 (fX2_meets N (63 : Int32) v_size w_2 w_3 v_tape) (fun (r_6 : Bool) =>
    if r_6 = false then
    (fX2_readLine_35 N v_size w_1 w_2 w_3 v_tape w_4)
    else (mm_nm ((w_2 + (1 : Int32))) (fun (y_9 : Int32) =>
    mm_bd2 (fX2_note N (63 : Int32) w_1 w_4) (fun (w_10 : Int32) (w_11 : List Int32) =>
    mm_bd4 (fX2_readEither N (fX2_readOne N 8) (0 : Int32) v_size w_10 y_9 w_3 v_tape w_11) (fun (w_13 : Int32) (w_14 : Int32) (w_15 : Int32) (w_16 : List Int32) =>
    fX2_readLine_35 N v_size w_13 w_14 w_15 v_tape w_16))))))

set_option maxHeartbeats 4000000 in
set_option maxRecDepth 100000 in
theorem ctX2_readLine {l : Launch} {D : va_G} {cI cL cS cH : ClassId} {a : Nat → Nat}  {v_size : Int32} {v_stepCount : Int32} {v_draftCount : Int32} {v_place : Int32} {v_fault : Int32} {v_stacked : Int32} {v_tape : List Int32} {v_steps : List Int32} {v_draft : List Int32} {v_stack : List Int32} {w_draftCount : Int32} {w_place : Int32} {w_fault : Int32} {w_draft : List Int32} {N d : Nat} (hd : 56 ≤ d) (hf : fX2_readLine N v_size v_draftCount v_place v_fault v_tape v_draft = some (w_draftCount, w_place, w_fault, w_draft)) : mm_Ct l yX2_readLine cX2_readLine 1 none d D (mm_T cI cL cS cH) [.ref (a 0)] (wd_X2 cI cL cS cH a v_size v_stepCount v_draftCount v_place v_fault v_stacked v_tape v_steps v_draft v_stack) (wd_X2 cI cL cS cH a v_size v_stepCount w_draftCount w_place w_fault v_stacked v_tape v_steps w_draft v_stack) none := by
  refine mm_of (by decide) (Nat.le_of_ble_eq_true rfl) ?_
  intro p e s m args below meth c A H locs ls C0 hP hD hA hS hl
  have C0 : mm_Cx p s m args meth c RX2 cX2_readLine 1 none D (mm_T cI cL cS cH) A := C0
  obtain ⟨hx, hb, hml, hown, hts, hr, hlocks, hK, hSt⟩ := id C0
  have hl : lv_has ls 1 [(0, .ref (a 0))] := hl
  unfold fX2_readLine at hf
  refine lv_aload_n hx hb dX2_readLine_0 rfl (lv_at hl 0 rfl) ?_
  refine lv_iconst (v := 0) hx hb dX2_readLine_1 (by decide) ?_
  obtain ⟨w_1, w_2, w_3, w_4, hc_5, hf⟩ := mm_bd4s hf
  refine mm_callVF (q0 := 0) (ci := 2) (rest := []) C0 lk_X2_56 (ctX2_readEither (a := a) (d := d - 1) (dgo := 50) (ctX2_readOne (N := N) 8 50 (by decide)) (by decide) (by omega) hc_5) (by omega) rfl hl.1 rfl (mm_cat rfl) dX2_readLine_2 hP hD hA hS rfl rfl (fun H locs hP hD hS => ?_)
  refine W.eq (g2 := F0 m 5 ls []) rfl ?_
  refine lv_aload_n hx hb dX2_readLine_5 rfl (lv_at hl 0 rfl) ?_
  refine lv_bipush (v := 63) hx hb dX2_readLine_6 (by decide) ?_
  obtain ⟨r_6, hc_7, hf⟩ := mm_bd1s hf
  refine mm_callVF (q0 := 0) (ci := 2) (rest := []) C0 lk_X2_40 (ctX2_meets (a := a) (d := d - 1) (by omega) hc_7) (by omega) rfl hl.1 rfl (mm_cat rfl) dX2_readLine_8 hP hD hA hS rfl rfl (fun H locs hP hD hS => ?_)
  refine W.eq (g2 := F0 m 11 ls [.int (mm_b r_6)]) rfl ?_
  refine lv_if_eq (tgt := 35) hx hb dX2_readLine_11 (by decide) (fun c_8 => ?_) (fun c_8 => ?_)
  · have hf := mm_ip hf (mm_b0 c_8)
    exact tX2_readLine_35 hd C0 hA N  _ _ _ _ _ _ H locs ls hf hP hD hS (lv_sub hl [0] rfl)
  · have hf := mm_in hf (mm_b1 c_8)
    refine lv_aload_n hx hb dX2_readLine_14 rfl (lv_at hl 0 rfl) ?_
    refine lv_dup hx hb dX2_readLine_15 rfl ?_
    refine mm_get C0 hP iw_X2 0 rfl rfl 6 (by decide) fl_X2_28 rfl dX2_readLine_16 ?_
    refine lv_iconst (v := 1) hx hb dX2_readLine_19 (by decide) ?_
    refine lv_iadd hx hb dX2_readLine_20 ?_
    refine lv_topi (fun y_9 ey_9 => ?_)
    have hf := mm_nms hf ey_9
    refine mm_put C0 hP hD hS iw_X2 tyX2 tyX2_ok nmX2 0 rfl rfl 6 (by decide) fl_X2_28 rfl rfl rfl (Nat.le_of_ble_eq_true rfl) dX2_readLine_21 (w2 := (wd_X2 cI cL cS cH a v_size v_stepCount w_1 y_9 w_3 v_stacked v_tape v_steps w_4 v_stack)) rfl (fun H locs hP hD hS => ?_)
    refine lv_aload_n hx hb dX2_readLine_24 rfl (lv_at hl 0 rfl) ?_
    refine lv_bipush (v := 63) hx hb dX2_readLine_25 (by decide) ?_
    obtain ⟨w_10, w_11, hc_12, hf⟩ := mm_bd2s hf
    refine mm_callVF (q0 := 0) (ci := 2) (rest := []) C0 lk_X2_60 (ctX2_note (a := a) (d := d - 1) (by omega) hc_12) (by omega) rfl hl.1 rfl (mm_cat rfl) dX2_readLine_27 hP hD hA hS rfl rfl (fun H locs hP hD hS => ?_)
    refine W.eq (g2 := F0 m 30 ls []) rfl ?_
    refine lv_aload_n hx hb dX2_readLine_30 rfl (lv_at hl 0 rfl) ?_
    refine lv_iconst (v := 0) hx hb dX2_readLine_31 (by decide) ?_
    obtain ⟨w_13, w_14, w_15, w_16, hc_17, hf⟩ := mm_bd4s hf
    refine mm_callVF (q0 := 0) (ci := 2) (rest := []) C0 lk_X2_56 (ctX2_readEither (a := a) (d := d - 1) (dgo := 50) (ctX2_readOne (N := N) 8 50 (by decide)) (by decide) (by omega) hc_17) (by omega) rfl hl.1 rfl (mm_cat rfl) dX2_readLine_32 hP hD hA hS rfl rfl (fun H locs hP hD hS => ?_)
    refine W.eq (g2 := F0 m 35 ls []) rfl ?_
    exact tX2_readLine_35 hd C0 hA N  _ _ _ _ _ _ H locs ls hf hP hD hS (lv_sub hl [0] rfl)
end
section
/-! parts: X2_readTape, X2_joined, X2_pop, X2_push, X2_worth, X5_forgetLed, X5_layOut, J7_fill_53178, X5_renew -/
theorem nb_dX2_readTape_0 : bls_w cX2_readTape [(0, [42]), (1, [3]), (2, [181, 0, 28]), (5, [42]), (6, [2]), (7, [181, 0, 31]), (10, [42]), (11, [3]), (12, [181, 0, 34]), (15, [42]), (16, [182, 0, 37]), (19, [3])] := bls_of (by decide +kernel)
theorem dX2_readTape_0 : decode cX2_readTape 0 = .ok (.aload_n 0, 1) := op_42 nb_dX2_readTape_0.1
theorem dX2_readTape_1 : decode cX2_readTape 1 = .ok (.iconst 0, 1) := op_3 nb_dX2_readTape_0.2.1
set_option maxRecDepth 100000 in
theorem dX2_readTape_2 : decode cX2_readTape 2 = .ok (.putfield 28, 3) := (op_181 nb_dX2_readTape_0.2.2.1).trans rfl
theorem dX2_readTape_5 : decode cX2_readTape 5 = .ok (.aload_n 0, 1) := op_42 nb_dX2_readTape_0.2.2.2.1
theorem dX2_readTape_6 : decode cX2_readTape 6 = .ok (.iconst (-1), 1) := op_2 nb_dX2_readTape_0.2.2.2.2.1
set_option maxRecDepth 100000 in
theorem dX2_readTape_7 : decode cX2_readTape 7 = .ok (.putfield 31, 3) := (op_181 nb_dX2_readTape_0.2.2.2.2.2.1).trans rfl
theorem dX2_readTape_10 : decode cX2_readTape 10 = .ok (.aload_n 0, 1) := op_42 nb_dX2_readTape_0.2.2.2.2.2.2.1
theorem dX2_readTape_11 : decode cX2_readTape 11 = .ok (.iconst 0, 1) := op_3 nb_dX2_readTape_0.2.2.2.2.2.2.2.1
set_option maxRecDepth 100000 in
theorem dX2_readTape_12 : decode cX2_readTape 12 = .ok (.putfield 34, 3) := (op_181 nb_dX2_readTape_0.2.2.2.2.2.2.2.2.1).trans rfl
theorem dX2_readTape_15 : decode cX2_readTape 15 = .ok (.aload_n 0, 1) := op_42 nb_dX2_readTape_0.2.2.2.2.2.2.2.2.2.1
set_option maxRecDepth 100000 in
theorem dX2_readTape_16 : decode cX2_readTape 16 = .ok (.invokevirtual 37, 3) := (op_182 nb_dX2_readTape_0.2.2.2.2.2.2.2.2.2.2.1).trans rfl
theorem dX2_readTape_19 : decode cX2_readTape 19 = .ok (.iconst 0, 1) := op_3 nb_dX2_readTape_0.2.2.2.2.2.2.2.2.2.2.2.1
theorem nb_dX2_readTape_20 : bls_w cX2_readTape [(20, [60]), (21, [27]), (22, [16, 120]), (24, [162, 0, 32]), (27, [42]), (28, [16, 59]), (30, [182, 0, 40]), (33, [153, 0, 23]), (36, [42]), (37, [89]), (38, [180, 0, 28]), (41, [4])] := bls_of (by decide +kernel)
theorem dX2_readTape_20 : decode cX2_readTape 20 = .ok (.istore_n 1, 1) := op_60 nb_dX2_readTape_20.1
theorem dX2_readTape_21 : decode cX2_readTape 21 = .ok (.iload_n 1, 1) := op_27 nb_dX2_readTape_20.2.1
set_option maxRecDepth 100000 in
theorem dX2_readTape_22 : decode cX2_readTape 22 = .ok (.bipush 120, 2) := (op_16 nb_dX2_readTape_20.2.2.1).trans rfl
set_option maxRecDepth 100000 in
theorem dX2_readTape_24 : decode cX2_readTape 24 = .ok (.if_icmp .ge 32, 3) := (op_162 nb_dX2_readTape_20.2.2.2.1).trans rfl
theorem dX2_readTape_27 : decode cX2_readTape 27 = .ok (.aload_n 0, 1) := op_42 nb_dX2_readTape_20.2.2.2.2.1
set_option maxRecDepth 100000 in
theorem dX2_readTape_28 : decode cX2_readTape 28 = .ok (.bipush 59, 2) := (op_16 nb_dX2_readTape_20.2.2.2.2.2.1).trans rfl
set_option maxRecDepth 100000 in
theorem dX2_readTape_30 : decode cX2_readTape 30 = .ok (.invokevirtual 40, 3) := (op_182 nb_dX2_readTape_20.2.2.2.2.2.2.1).trans rfl
set_option maxRecDepth 100000 in
theorem dX2_readTape_33 : decode cX2_readTape 33 = .ok (.ifCond .eq 23, 3) := (op_153 nb_dX2_readTape_20.2.2.2.2.2.2.2.1).trans rfl
theorem dX2_readTape_36 : decode cX2_readTape 36 = .ok (.aload_n 0, 1) := op_42 nb_dX2_readTape_20.2.2.2.2.2.2.2.2.1
theorem dX2_readTape_37 : decode cX2_readTape 37 = .ok (.dup, 1) := op_89 nb_dX2_readTape_20.2.2.2.2.2.2.2.2.2.1
set_option maxRecDepth 100000 in
theorem dX2_readTape_38 : decode cX2_readTape 38 = .ok (.getfield 28, 3) := (op_180 nb_dX2_readTape_20.2.2.2.2.2.2.2.2.2.2.1).trans rfl
theorem dX2_readTape_41 : decode cX2_readTape 41 = .ok (.iconst 1, 1) := op_4 nb_dX2_readTape_20.2.2.2.2.2.2.2.2.2.2.2.1
theorem nb_dX2_readTape_42 : bls_w cX2_readTape [(42, [96]), (43, [181, 0, 28]), (46, [42]), (47, [182, 0, 37]), (50, [132, 1, 1]), (53, [167, 255, 224]), (56, [42]), (57, [180, 0, 28]), (60, [42]), (61, [180, 0, 24]), (64, [162, 0, 7]), (67, [42])] := bls_of (by decide +kernel)
theorem dX2_readTape_42 : decode cX2_readTape 42 = .ok (.iadd, 1) := op_96 nb_dX2_readTape_42.1
set_option maxRecDepth 100000 in
theorem dX2_readTape_43 : decode cX2_readTape 43 = .ok (.putfield 28, 3) := (op_181 nb_dX2_readTape_42.2.1).trans rfl
theorem dX2_readTape_46 : decode cX2_readTape 46 = .ok (.aload_n 0, 1) := op_42 nb_dX2_readTape_42.2.2.1
set_option maxRecDepth 100000 in
theorem dX2_readTape_47 : decode cX2_readTape 47 = .ok (.invokevirtual 37, 3) := (op_182 nb_dX2_readTape_42.2.2.2.1).trans rfl
set_option maxRecDepth 100000 in
theorem dX2_readTape_50 : decode cX2_readTape 50 = .ok (.iinc 1 1, 3) := (op_132 nb_dX2_readTape_42.2.2.2.2.1).trans rfl
set_option maxRecDepth 100000 in
theorem dX2_readTape_53 : decode cX2_readTape 53 = .ok (.goto (-32), 3) := (op_167 nb_dX2_readTape_42.2.2.2.2.2.1).trans rfl
theorem dX2_readTape_56 : decode cX2_readTape 56 = .ok (.aload_n 0, 1) := op_42 nb_dX2_readTape_42.2.2.2.2.2.2.1
set_option maxRecDepth 100000 in
theorem dX2_readTape_57 : decode cX2_readTape 57 = .ok (.getfield 28, 3) := (op_180 nb_dX2_readTape_42.2.2.2.2.2.2.2.1).trans rfl
theorem dX2_readTape_60 : decode cX2_readTape 60 = .ok (.aload_n 0, 1) := op_42 nb_dX2_readTape_42.2.2.2.2.2.2.2.2.1
set_option maxRecDepth 100000 in
theorem dX2_readTape_61 : decode cX2_readTape 61 = .ok (.getfield 24, 3) := (op_180 nb_dX2_readTape_42.2.2.2.2.2.2.2.2.2.1).trans rfl
set_option maxRecDepth 100000 in
theorem dX2_readTape_64 : decode cX2_readTape 64 = .ok (.if_icmp .ge 7, 3) := (op_162 nb_dX2_readTape_42.2.2.2.2.2.2.2.2.2.2.1).trans rfl
theorem dX2_readTape_67 : decode cX2_readTape 67 = .ok (.aload_n 0, 1) := op_42 nb_dX2_readTape_42.2.2.2.2.2.2.2.2.2.2.2.1
theorem nb_dX2_readTape_68 : bls_w cX2_readTape [(68, [182, 0, 44]), (71, [42]), (72, [3]), (73, [181, 0, 24]), (76, [42]), (77, [180, 0, 31]), (80, [156, 0, 28]), (83, [42]), (84, [180, 0, 18]), (87, [3]), (88, [42]), (89, [180, 0, 15])] := bls_of (by decide +kernel)
set_option maxRecDepth 100000 in
theorem dX2_readTape_68 : decode cX2_readTape 68 = .ok (.invokevirtual 44, 3) := (op_182 nb_dX2_readTape_68.1).trans rfl
theorem dX2_readTape_71 : decode cX2_readTape 71 = .ok (.aload_n 0, 1) := op_42 nb_dX2_readTape_68.2.1
theorem dX2_readTape_72 : decode cX2_readTape 72 = .ok (.iconst 0, 1) := op_3 nb_dX2_readTape_68.2.2.1
set_option maxRecDepth 100000 in
theorem dX2_readTape_73 : decode cX2_readTape 73 = .ok (.putfield 24, 3) := (op_181 nb_dX2_readTape_68.2.2.2.1).trans rfl
theorem dX2_readTape_76 : decode cX2_readTape 76 = .ok (.aload_n 0, 1) := op_42 nb_dX2_readTape_68.2.2.2.2.1
set_option maxRecDepth 100000 in
theorem dX2_readTape_77 : decode cX2_readTape 77 = .ok (.getfield 31, 3) := (op_180 nb_dX2_readTape_68.2.2.2.2.2.1).trans rfl
set_option maxRecDepth 100000 in
theorem dX2_readTape_80 : decode cX2_readTape 80 = .ok (.ifCond .ge 28, 3) := (op_156 nb_dX2_readTape_68.2.2.2.2.2.2.1).trans rfl
theorem dX2_readTape_83 : decode cX2_readTape 83 = .ok (.aload_n 0, 1) := op_42 nb_dX2_readTape_68.2.2.2.2.2.2.2.1
set_option maxRecDepth 100000 in
theorem dX2_readTape_84 : decode cX2_readTape 84 = .ok (.getfield 18, 3) := (op_180 nb_dX2_readTape_68.2.2.2.2.2.2.2.2.1).trans rfl
theorem dX2_readTape_87 : decode cX2_readTape 87 = .ok (.iconst 0, 1) := op_3 nb_dX2_readTape_68.2.2.2.2.2.2.2.2.2.1
theorem dX2_readTape_88 : decode cX2_readTape 88 = .ok (.aload_n 0, 1) := op_42 nb_dX2_readTape_68.2.2.2.2.2.2.2.2.2.2.1
set_option maxRecDepth 100000 in
theorem dX2_readTape_89 : decode cX2_readTape 89 = .ok (.getfield 15, 3) := (op_180 nb_dX2_readTape_68.2.2.2.2.2.2.2.2.2.2.2.1).trans rfl
theorem nb_dX2_readTape_92 : bls_w cX2_readTape [(92, [3]), (93, [42]), (94, [180, 0, 34]), (97, [184, 0, 47]), (100, [42]), (101, [42]), (102, [180, 0, 34]), (105, [181, 0, 53]), (108, [42]), (109, [180, 0, 31]), (112, [172])] := bls_of (by decide +kernel)
theorem dX2_readTape_92 : decode cX2_readTape 92 = .ok (.iconst 0, 1) := op_3 nb_dX2_readTape_92.1
theorem dX2_readTape_93 : decode cX2_readTape 93 = .ok (.aload_n 0, 1) := op_42 nb_dX2_readTape_92.2.1
set_option maxRecDepth 100000 in
theorem dX2_readTape_94 : decode cX2_readTape 94 = .ok (.getfield 34, 3) := (op_180 nb_dX2_readTape_92.2.2.1).trans rfl
set_option maxRecDepth 100000 in
theorem dX2_readTape_97 : decode cX2_readTape 97 = .ok (.invokestatic 47, 3) := (op_184 nb_dX2_readTape_92.2.2.2.1).trans rfl
theorem dX2_readTape_100 : decode cX2_readTape 100 = .ok (.aload_n 0, 1) := op_42 nb_dX2_readTape_92.2.2.2.2.1
theorem dX2_readTape_101 : decode cX2_readTape 101 = .ok (.aload_n 0, 1) := op_42 nb_dX2_readTape_92.2.2.2.2.2.1
set_option maxRecDepth 100000 in
theorem dX2_readTape_102 : decode cX2_readTape 102 = .ok (.getfield 34, 3) := (op_180 nb_dX2_readTape_92.2.2.2.2.2.2.1).trans rfl
set_option maxRecDepth 100000 in
theorem dX2_readTape_105 : decode cX2_readTape 105 = .ok (.putfield 53, 3) := (op_181 nb_dX2_readTape_92.2.2.2.2.2.2.2.1).trans rfl
theorem dX2_readTape_108 : decode cX2_readTape 108 = .ok (.aload_n 0, 1) := op_42 nb_dX2_readTape_92.2.2.2.2.2.2.2.2.1
set_option maxRecDepth 100000 in
theorem dX2_readTape_109 : decode cX2_readTape 109 = .ok (.getfield 31, 3) := (op_180 nb_dX2_readTape_92.2.2.2.2.2.2.2.2.2.1).trans rfl
theorem dX2_readTape_112 : decode cX2_readTape 112 = .ok (.ireturn, 1) := op_172 nb_dX2_readTape_92.2.2.2.2.2.2.2.2.2.2.1
def fX2_readTape_108 (N : Nat)  (v_size : Int32) (v_stepCount : Int32) (v_draftCount : Int32) (v_place : Int32) (v_fault : Int32) (v_tape : List Int32) (v_steps : List Int32) (v_draft : List Int32) : Option (Int32 × Int32 × Int32 × Int32 × Int32 × Int32 × List Int32 × List Int32) :=
    some (v_fault, v_size, v_stepCount, v_draftCount, v_place, v_fault, v_steps, v_draft)

set_option maxHeartbeats 4000000 in
set_option maxRecDepth 100000 in
theorem tX2_readTape_108 {p : Program} {l : Launch} {e : Env} {s : State} {m : MethodId} {args : Array Value} {below : List Frame} {meth : Method} {c : Code} {D : va_G} {cI cL cS cH : ClassId} {A : Nat → Prop} {d : Nat} {a : Nat → Nat} (hd : 57 ≤ d) (C0 : mm_Cx p s m args meth c RX2 cX2_readTape 2 (some .int) D (mm_T cI cL cS cH) A) (hA : ∀ q, s.heap.size ≤ q → A q) {v_stacked : Int32} {v_stack : List Int32} {r : Int32} {w_size : Int32} {w_stepCount : Int32} {w_draftCount : Int32} {w_place : Int32} {w_fault : Int32} {w_steps : List Int32} {w_draft : List Int32} (N : Nat)  : ∀ (v_size : Int32) (v_stepCount : Int32) (v_draftCount : Int32) (v_place : Int32) (v_fault : Int32) (v_tape : List Int32) (v_steps : List Int32) (v_draft : List Int32) (H : Heap) (locs : List Loc) (ls : Array Slot), fX2_readTape_108 N v_size v_stepCount v_draftCount v_place v_fault v_tape v_steps v_draft = some (r, w_size, w_stepCount, w_draftCount, w_place, w_fault, w_steps, w_draft) → va_P D mm_cl (wd_X2 cI cL cS cH a v_size v_stepCount v_draftCount v_place v_fault v_stacked v_tape v_steps v_draft v_stack) H → va_D A (wd_X2 cI cL cS cH a v_size v_stepCount v_draftCount v_place v_fault v_stacked v_tape v_steps v_draft v_stack) → va_S A s.heap H locs → lv_has ls 2 [(0, .ref (a 0))] → W p l e (mm_rr d) s m args below meth c H locs 0 0 (mm_Z below D A (wd_X2 cI cL cS cH a w_size w_stepCount w_draftCount w_place w_fault v_stacked v_tape w_steps w_draft v_stack) (some (.int r)) args s) (F0 m 108 ls []) := by
  obtain ⟨hx, hb, hml, hown, hts, hr, hlocks, hK, hSt⟩ := id C0
  intro v_size v_stepCount v_draftCount v_place v_fault v_tape v_steps v_draft H locs ls hf hP hD hS hl
  unfold fX2_readTape_108 at hf
  refine lv_aload_n hx hb dX2_readTape_108 rfl (lv_at hl 0 rfl) ?_
  refine mm_get C0 hP iw_X2 0 rfl rfl 7 (by decide) fl_X2_31 rfl dX2_readTape_109 ?_
  apply mm_sub8 hf
  exact mm_iret C0 hP hD hS dX2_readTape_112

def fX2_readTape_71 (N : Nat)  (v_size : Int32) (v_stepCount : Int32) (v_draftCount : Int32) (v_place : Int32) (v_fault : Int32) (v_tape : List Int32) (v_steps : List Int32) (v_draft : List Int32) : Option (Int32 × Int32 × Int32 × Int32 × Int32 × Int32 × List Int32 × List Int32) :=
    if 0 ≤ v_fault then
    (fX2_readTape_108 N (0 : Int32) v_stepCount v_draftCount v_place v_fault v_tape v_steps v_draft)
    else (mm_ck (mm_cok (0 : Int32) (0 : Int32) v_draftCount v_draft.length v_steps.length) (mm_nm (mm_cp v_draft v_steps (0 : Int32) (0 : Int32) v_draftCount) (fun (l_22 : List Int32) =>
    fX2_readTape_108 N (0 : Int32) v_draftCount v_draftCount v_place v_fault v_tape l_22 v_draft)))

set_option maxHeartbeats 4000000 in
set_option maxRecDepth 100000 in
theorem tX2_readTape_71 {p : Program} {l : Launch} {e : Env} {s : State} {m : MethodId} {args : Array Value} {below : List Frame} {meth : Method} {c : Code} {D : va_G} {cI cL cS cH : ClassId} {A : Nat → Prop} {d : Nat} {a : Nat → Nat} (hd : 57 ≤ d) (C0 : mm_Cx p s m args meth c RX2 cX2_readTape 2 (some .int) D (mm_T cI cL cS cH) A) (hA : ∀ q, s.heap.size ≤ q → A q) {v_stacked : Int32} {v_stack : List Int32} {r : Int32} {w_size : Int32} {w_stepCount : Int32} {w_draftCount : Int32} {w_place : Int32} {w_fault : Int32} {w_steps : List Int32} {w_draft : List Int32} (N : Nat)  : ∀ (v_size : Int32) (v_stepCount : Int32) (v_draftCount : Int32) (v_place : Int32) (v_fault : Int32) (v_tape : List Int32) (v_steps : List Int32) (v_draft : List Int32) (H : Heap) (locs : List Loc) (ls : Array Slot), fX2_readTape_71 N v_size v_stepCount v_draftCount v_place v_fault v_tape v_steps v_draft = some (r, w_size, w_stepCount, w_draftCount, w_place, w_fault, w_steps, w_draft) → va_P D mm_cl (wd_X2 cI cL cS cH a v_size v_stepCount v_draftCount v_place v_fault v_stacked v_tape v_steps v_draft v_stack) H → va_D A (wd_X2 cI cL cS cH a v_size v_stepCount v_draftCount v_place v_fault v_stacked v_tape v_steps v_draft v_stack) → va_S A s.heap H locs → lv_has ls 2 [(0, .ref (a 0))] → W p l e (mm_rr d) s m args below meth c H locs 0 0 (mm_Z below D A (wd_X2 cI cL cS cH a w_size w_stepCount w_draftCount w_place w_fault v_stacked v_tape w_steps w_draft v_stack) (some (.int r)) args s) (F0 m 71 ls []) := by
  obtain ⟨hx, hb, hml, hown, hts, hr, hlocks, hK, hSt⟩ := id C0
  intro v_size v_stepCount v_draftCount v_place v_fault v_tape v_steps v_draft H locs ls hf hP hD hS hl
  unfold fX2_readTape_71 at hf
  refine lv_aload_n hx hb dX2_readTape_71 rfl (lv_at hl 0 rfl) ?_
  refine lv_iconst (v := 0) hx hb dX2_readTape_72 (by decide) ?_
  refine mm_put C0 hP hD hS iw_X2 tyX2 tyX2_ok nmX2 0 rfl rfl 0 (by decide) fl_X2_24 rfl rfl rfl (Nat.le_of_ble_eq_true rfl) dX2_readTape_73 (w2 := (wd_X2 cI cL cS cH a (0 : Int32) v_stepCount v_draftCount v_place v_fault v_stacked v_tape v_steps v_draft v_stack)) rfl (fun H locs hP hD hS => ?_)
  refine lv_aload_n hx hb dX2_readTape_76 rfl (lv_at hl 0 rfl) ?_
  refine mm_get C0 hP iw_X2 0 rfl rfl 7 (by decide) fl_X2_31 rfl dX2_readTape_77 ?_
  refine lv_if_ge (tgt := 108) hx hb dX2_readTape_80 (by decide) (fun c_20 => ?_) (fun c_20 => ?_)
  · have hf := mm_ip hf c_20
    exact tX2_readTape_108 hd C0 hA N  _ _ _ _ _ _ _ _ H locs ls hf hP hD hS (lv_sub hl [0] rfl)
  · have hf := mm_in hf c_20
    refine lv_aload_n hx hb dX2_readTape_83 rfl (lv_at hl 0 rfl) ?_
    refine mm_get C0 hP iw_X2 0 rfl rfl 4 (by decide) fl_X2_18 rfl dX2_readTape_84 ?_
    refine lv_iconst (v := 0) hx hb dX2_readTape_87 (by decide) ?_
    refine lv_aload_n hx hb dX2_readTape_88 rfl (lv_at hl 0 rfl) ?_
    refine mm_get C0 hP iw_X2 0 rfl rfl 2 (by decide) fl_X2_15 rfl dX2_readTape_89 ?_
    refine lv_iconst (v := 0) hx hb dX2_readTape_92 (by decide) ?_
    refine lv_aload_n hx hb dX2_readTape_93 rfl (lv_at hl 0 rfl) ?_
    refine mm_get C0 hP iw_X2 0 rfl rfl 5 (by decide) fl_X2_34 rfl dX2_readTape_94 ?_
    obtain ⟨h_21, hf⟩ := mm_cks hf
    refine mm_copyi C0 la_X2_47 hP hD hS 3 2 rfl rfl h_21 hl.1 (by omega) (mm_cat rfl) dX2_readTape_97 (w2 := (wd_X2 cI cL cS cH a (0 : Int32) v_stepCount v_draftCount v_place v_fault v_stacked v_tape (mm_cp v_draft v_steps (0 : Int32) (0 : Int32) v_draftCount) v_draft v_stack)) rfl (fun H locs hP hD hS => ?_)
    generalize el_22 : (mm_cp v_draft v_steps (0 : Int32) (0 : Int32) v_draftCount) = l_22 at hP hD
    have hf := mm_nms hf el_22.symm
    refine lv_aload_n hx hb dX2_readTape_100 rfl (lv_at hl 0 rfl) ?_
    refine lv_aload_n hx hb dX2_readTape_101 rfl (lv_at hl 0 rfl) ?_
    refine mm_get C0 hP iw_X2 0 rfl rfl 5 (by decide) fl_X2_34 rfl dX2_readTape_102 ?_
    refine mm_put C0 hP hD hS iw_X2 tyX2 tyX2_ok nmX2 0 rfl rfl 3 (by decide) fl_X2_53 rfl rfl rfl (Nat.le_of_ble_eq_true rfl) dX2_readTape_105 (w2 := (wd_X2 cI cL cS cH a (0 : Int32) v_draftCount v_draftCount v_place v_fault v_stacked v_tape l_22 v_draft v_stack)) rfl (fun H locs hP hD hS => ?_)
    exact tX2_readTape_108 hd C0 hA N  _ _ _ _ _ _ _ _ H locs ls hf hP hD hS (lv_sub hl [0] rfl)

def fX2_readTape_56 (N : Nat)  (v_size : Int32) (v_stepCount : Int32) (v_draftCount : Int32) (v_place : Int32) (v_fault : Int32) (v_tape : List Int32) (v_steps : List Int32) (v_draft : List Int32) : Option (Int32 × Int32 × Int32 × Int32 × Int32 × Int32 × List Int32 × List Int32) :=
    if v_size ≤ v_place then
    (fX2_readTape_71 N v_size v_stepCount v_draftCount v_place v_fault v_tape v_steps v_draft)
    else (mm_bd1 (fX2_fail N v_place v_fault) (fun (w_18 : Int32) =>
    fX2_readTape_71 N v_size v_stepCount v_draftCount v_place w_18 v_tape v_steps v_draft))

set_option maxHeartbeats 4000000 in
set_option maxRecDepth 100000 in
theorem tX2_readTape_56 {p : Program} {l : Launch} {e : Env} {s : State} {m : MethodId} {args : Array Value} {below : List Frame} {meth : Method} {c : Code} {D : va_G} {cI cL cS cH : ClassId} {A : Nat → Prop} {d : Nat} {a : Nat → Nat} (hd : 57 ≤ d) (C0 : mm_Cx p s m args meth c RX2 cX2_readTape 2 (some .int) D (mm_T cI cL cS cH) A) (hA : ∀ q, s.heap.size ≤ q → A q) {v_stacked : Int32} {v_stack : List Int32} {r : Int32} {w_size : Int32} {w_stepCount : Int32} {w_draftCount : Int32} {w_place : Int32} {w_fault : Int32} {w_steps : List Int32} {w_draft : List Int32} (N : Nat)  : ∀ (v_size : Int32) (v_stepCount : Int32) (v_draftCount : Int32) (v_place : Int32) (v_fault : Int32) (v_tape : List Int32) (v_steps : List Int32) (v_draft : List Int32) (H : Heap) (locs : List Loc) (ls : Array Slot), fX2_readTape_56 N v_size v_stepCount v_draftCount v_place v_fault v_tape v_steps v_draft = some (r, w_size, w_stepCount, w_draftCount, w_place, w_fault, w_steps, w_draft) → va_P D mm_cl (wd_X2 cI cL cS cH a v_size v_stepCount v_draftCount v_place v_fault v_stacked v_tape v_steps v_draft v_stack) H → va_D A (wd_X2 cI cL cS cH a v_size v_stepCount v_draftCount v_place v_fault v_stacked v_tape v_steps v_draft v_stack) → va_S A s.heap H locs → lv_has ls 2 [(0, .ref (a 0))] → W p l e (mm_rr d) s m args below meth c H locs 0 0 (mm_Z below D A (wd_X2 cI cL cS cH a w_size w_stepCount w_draftCount w_place w_fault v_stacked v_tape w_steps w_draft v_stack) (some (.int r)) args s) (F0 m 56 ls []) := by
  obtain ⟨hx, hb, hml, hown, hts, hr, hlocks, hK, hSt⟩ := id C0
  intro v_size v_stepCount v_draftCount v_place v_fault v_tape v_steps v_draft H locs ls hf hP hD hS hl
  unfold fX2_readTape_56 at hf
  refine lv_aload_n hx hb dX2_readTape_56 rfl (lv_at hl 0 rfl) ?_
  refine mm_get C0 hP iw_X2 0 rfl rfl 6 (by decide) fl_X2_28 rfl dX2_readTape_57 ?_
  refine lv_aload_n hx hb dX2_readTape_60 rfl (lv_at hl 0 rfl) ?_
  refine mm_get C0 hP iw_X2 0 rfl rfl 0 (by decide) fl_X2_24 rfl dX2_readTape_61 ?_
  refine lv_icmp_ge (tgt := 71) hx hb dX2_readTape_64 (by decide) (fun c_17 => ?_) (fun c_17 => ?_)
  · have hf := mm_ip hf c_17
    exact tX2_readTape_71 hd C0 hA N  _ _ _ _ _ _ _ _ H locs ls hf hP hD hS (lv_sub hl [0] rfl)
  · have hf := mm_in hf c_17
    refine lv_aload_n hx hb dX2_readTape_67 rfl (lv_at hl 0 rfl) ?_
    obtain ⟨w_18, hc_19, hf⟩ := mm_bd1s hf
    refine mm_callVF (q0 := 0) (ci := 2) (rest := []) C0 lk_X2_44 (ctX2_fail (a := a) (d := d - 1) (by omega) hc_19) (by omega) rfl hl.1 rfl (mm_cat rfl) dX2_readTape_68 hP hD hA hS rfl rfl (fun H locs hP hD hS => ?_)
    refine W.eq (g2 := F0 m 71 ls []) rfl ?_
    exact tX2_readTape_71 hd C0 hA N  _ _ _ _ _ _ _ _ H locs ls hf hP hD hS (lv_sub hl [0] rfl)

def fX2_readTape_21 (N : Nat)  : Nat → Int32 → Int32 → Int32 → Int32 → Int32 → Int32 → List Int32 → List Int32 → List Int32 → Option (Int32 × Int32 × Int32 × Int32 × Int32 × Int32 × List Int32 × List Int32)
  | 0 => fun _ _ _ _ _ _ _ _ _ => none
  | n + 1 => fun x1 v_size v_stepCount v_draftCount v_place v_fault v_tape v_steps v_draft =>
    if (120 : Int32) ≤ x1 then
    (fX2_readTape_56 N v_size v_stepCount v_draftCount v_place v_fault v_tape v_steps v_draft)
    else (mm_bd1 (fX2_meets N (59 : Int32) v_size v_place v_fault v_tape) (fun (r_7 : Bool) =>
    if r_7 = false then
    (fX2_readTape_56 N v_size v_stepCount v_draftCount v_place v_fault v_tape v_steps v_draft)
    else (mm_nm ((v_place + (1 : Int32))) (fun (y_10 : Int32) =>
    mm_bd4 (fX2_readLine N v_size v_draftCount y_10 v_fault v_tape v_draft) (fun (w_11 : Int32) (w_12 : Int32) (w_13 : Int32) (w_14 : List Int32) =>
    mm_nm (x1 + (1 : Int32)) (fun (y_16 : Int32) =>
    fX2_readTape_21 N n y_16 v_size v_stepCount w_11 w_12 w_13 v_tape v_steps w_14))))))

set_option maxHeartbeats 4000000 in
set_option maxRecDepth 100000 in
theorem tX2_readTape_21 {p : Program} {l : Launch} {e : Env} {s : State} {m : MethodId} {args : Array Value} {below : List Frame} {meth : Method} {c : Code} {D : va_G} {cI cL cS cH : ClassId} {A : Nat → Prop} {d : Nat} {a : Nat → Nat} (hd : 57 ≤ d) (C0 : mm_Cx p s m args meth c RX2 cX2_readTape 2 (some .int) D (mm_T cI cL cS cH) A) (hA : ∀ q, s.heap.size ≤ q → A q) {v_stacked : Int32} {v_stack : List Int32} {r : Int32} {w_size : Int32} {w_stepCount : Int32} {w_draftCount : Int32} {w_place : Int32} {w_fault : Int32} {w_steps : List Int32} {w_draft : List Int32} (N : Nat)  : ∀ (n : Nat), ∀ (x1 : Int32) (v_size : Int32) (v_stepCount : Int32) (v_draftCount : Int32) (v_place : Int32) (v_fault : Int32) (v_tape : List Int32) (v_steps : List Int32) (v_draft : List Int32) (H : Heap) (locs : List Loc) (ls : Array Slot), fX2_readTape_21 N n x1 v_size v_stepCount v_draftCount v_place v_fault v_tape v_steps v_draft = some (r, w_size, w_stepCount, w_draftCount, w_place, w_fault, w_steps, w_draft) → va_P D mm_cl (wd_X2 cI cL cS cH a v_size v_stepCount v_draftCount v_place v_fault v_stacked v_tape v_steps v_draft v_stack) H → va_D A (wd_X2 cI cL cS cH a v_size v_stepCount v_draftCount v_place v_fault v_stacked v_tape v_steps v_draft v_stack) → va_S A s.heap H locs → lv_has ls 2 [(0, .ref (a 0)), (1, .int x1)] → W p l e (mm_rr d) s m args below meth c H locs 0 0 (mm_Z below D A (wd_X2 cI cL cS cH a w_size w_stepCount w_draftCount w_place w_fault v_stacked v_tape w_steps w_draft v_stack) (some (.int r)) args s) (F0 m 21 ls []) := by
  obtain ⟨hx, hb, hml, hown, hts, hr, hlocks, hK, hSt⟩ := id C0
  intro n
  induction n with
  | zero =>
    intro x1 v_size v_stepCount v_draftCount v_place v_fault v_tape v_steps v_draft H locs ls hf
    cases (show none = some _ from hf)
  | succ n ih =>
    intro x1 v_size v_stepCount v_draftCount v_place v_fault v_tape v_steps v_draft H locs ls hf hP hD hS hl
    unfold fX2_readTape_21 at hf
    refine lv_iload_n hx hb dX2_readTape_21 rfl (lv_at hl 1 rfl) ?_
    refine lv_bipush (v := 120) hx hb dX2_readTape_22 (by decide) ?_
    refine lv_icmp_ge (tgt := 56) hx hb dX2_readTape_24 (by decide) (fun c_6 => ?_) (fun c_6 => ?_)
    · have hf := mm_ip hf c_6
      exact tX2_readTape_56 hd C0 hA N  _ _ _ _ _ _ _ _ H locs ls hf hP hD hS (lv_sub hl [0] rfl)
    · have hf := mm_in hf c_6
      refine lv_aload_n hx hb dX2_readTape_27 rfl (lv_at hl 0 rfl) ?_
      refine lv_bipush (v := 59) hx hb dX2_readTape_28 (by decide) ?_
      obtain ⟨r_7, hc_8, hf⟩ := mm_bd1s hf
      refine mm_callVF (q0 := 0) (ci := 2) (rest := []) C0 lk_X2_40 (ctX2_meets (a := a) (d := d - 1) (by omega) hc_8) (by omega) rfl hl.1 rfl (mm_cat rfl) dX2_readTape_30 hP hD hA hS rfl rfl (fun H locs hP hD hS => ?_)
      refine W.eq (g2 := F0 m 33 ls [.int (mm_b r_7)]) rfl ?_
      refine lv_if_eq (tgt := 56) hx hb dX2_readTape_33 (by decide) (fun c_9 => ?_) (fun c_9 => ?_)
      · have hf := mm_ip hf (mm_b0 c_9)
        exact tX2_readTape_56 hd C0 hA N  _ _ _ _ _ _ _ _ H locs ls hf hP hD hS (lv_sub hl [0] rfl)
      · have hf := mm_in hf (mm_b1 c_9)
        refine lv_aload_n hx hb dX2_readTape_36 rfl (lv_at hl 0 rfl) ?_
        refine lv_dup hx hb dX2_readTape_37 rfl ?_
        refine mm_get C0 hP iw_X2 0 rfl rfl 6 (by decide) fl_X2_28 rfl dX2_readTape_38 ?_
        refine lv_iconst (v := 1) hx hb dX2_readTape_41 (by decide) ?_
        refine lv_iadd hx hb dX2_readTape_42 ?_
        refine lv_topi (fun y_10 ey_10 => ?_)
        have hf := mm_nms hf ey_10
        refine mm_put C0 hP hD hS iw_X2 tyX2 tyX2_ok nmX2 0 rfl rfl 6 (by decide) fl_X2_28 rfl rfl rfl (Nat.le_of_ble_eq_true rfl) dX2_readTape_43 (w2 := (wd_X2 cI cL cS cH a v_size v_stepCount v_draftCount y_10 v_fault v_stacked v_tape v_steps v_draft v_stack)) rfl (fun H locs hP hD hS => ?_)
        refine lv_aload_n hx hb dX2_readTape_46 rfl (lv_at hl 0 rfl) ?_
        obtain ⟨w_11, w_12, w_13, w_14, hc_15, hf⟩ := mm_bd4s hf
        refine mm_callVF (q0 := 0) (ci := 2) (rest := []) C0 lk_X2_37 (ctX2_readLine (a := a) (d := d - 1) (by omega) hc_15) (by omega) rfl hl.1 rfl (mm_cat rfl) dX2_readTape_47 hP hD hA hS rfl rfl (fun H locs hP hD hS => ?_)
        refine W.eq (g2 := F0 m 50 ls []) rfl ?_
        obtain ⟨y_16, ey_16⟩ : ∃ z : Int32, z = x1 + (1 : Int32) := ⟨_, rfl⟩
        have hf := mm_nms hf ey_16
        refine lv_iinc (v := y_16) (lv' := [(1, .int y_16), (0, .ref (a 0))]) hx hb dX2_readTape_50 hl (k := 1) rfl (by rw [ey_16]; rfl) (by decide) rfl (fun ls hl => ?_)
        refine lv_goto (tgt := 21) hx hb dX2_readTape_53 (by decide) ?_
        exact ih _ _ _ _ _ _ _ _ _ H locs ls hf hP hD hS (lv_sub hl [1, 0] rfl)

def fX2_readTape (N : Nat) (v_size : Int32) (v_stepCount : Int32) (v_draftCount : Int32) (v_place : Int32) (v_fault : Int32) (v_tape : List Int32) (v_steps : List Int32) (v_draft : List Int32) : Option (Int32 × Int32 × Int32 × Int32 × Int32 × Int32 × List Int32 × List Int32) :=
    mm_bd4 (fX2_readLine N v_size (0 : Int32) (0 : Int32) (-1 : Int32) v_tape v_draft) (fun (w_1 : Int32) (w_2 : Int32) (w_3 : Int32) (w_4 : List Int32) =>
    fX2_readTape_21 N N (0 : Int32) v_size v_stepCount w_1 w_2 w_3 v_tape v_steps w_4)

set_option maxHeartbeats 4000000 in
set_option maxRecDepth 100000 in
theorem ctX2_readTape {l : Launch} {D : va_G} {cI cL cS cH : ClassId} {a : Nat → Nat}  {v_size : Int32} {v_stepCount : Int32} {v_draftCount : Int32} {v_place : Int32} {v_fault : Int32} {v_stacked : Int32} {v_tape : List Int32} {v_steps : List Int32} {v_draft : List Int32} {v_stack : List Int32} {r : Int32} {w_size : Int32} {w_stepCount : Int32} {w_draftCount : Int32} {w_place : Int32} {w_fault : Int32} {w_steps : List Int32} {w_draft : List Int32} {N d : Nat} (hd : 57 ≤ d) (hf : fX2_readTape N v_size v_stepCount v_draftCount v_place v_fault v_tape v_steps v_draft = some (r, w_size, w_stepCount, w_draftCount, w_place, w_fault, w_steps, w_draft)) : mm_Ct l yX2_readTape cX2_readTape 2 (some .int) d D (mm_T cI cL cS cH) [.ref (a 0)] (wd_X2 cI cL cS cH a v_size v_stepCount v_draftCount v_place v_fault v_stacked v_tape v_steps v_draft v_stack) (wd_X2 cI cL cS cH a w_size w_stepCount w_draftCount w_place w_fault v_stacked v_tape w_steps w_draft v_stack) (some (.int r)) := by
  refine mm_of (by decide) (Nat.le_of_ble_eq_true rfl) ?_
  intro p e s m args below meth c A H locs ls C0 hP hD hA hS hl
  have C0 : mm_Cx p s m args meth c RX2 cX2_readTape 2 (some .int) D (mm_T cI cL cS cH) A := C0
  obtain ⟨hx, hb, hml, hown, hts, hr, hlocks, hK, hSt⟩ := id C0
  have hl : lv_has ls 2 [(0, .ref (a 0))] := hl
  unfold fX2_readTape at hf
  refine lv_aload_n hx hb dX2_readTape_0 rfl (lv_at hl 0 rfl) ?_
  refine lv_iconst (v := 0) hx hb dX2_readTape_1 (by decide) ?_
  refine mm_put C0 hP hD hS iw_X2 tyX2 tyX2_ok nmX2 0 rfl rfl 6 (by decide) fl_X2_28 rfl rfl rfl (Nat.le_of_ble_eq_true rfl) dX2_readTape_2 (w2 := (wd_X2 cI cL cS cH a v_size v_stepCount v_draftCount (0 : Int32) v_fault v_stacked v_tape v_steps v_draft v_stack)) rfl (fun H locs hP hD hS => ?_)
  refine lv_aload_n hx hb dX2_readTape_5 rfl (lv_at hl 0 rfl) ?_
  refine lv_iconst (v := -1) hx hb dX2_readTape_6 (by decide) ?_
  refine mm_put C0 hP hD hS iw_X2 tyX2 tyX2_ok nmX2 0 rfl rfl 7 (by decide) fl_X2_31 rfl rfl rfl (Nat.le_of_ble_eq_true rfl) dX2_readTape_7 (w2 := (wd_X2 cI cL cS cH a v_size v_stepCount v_draftCount (0 : Int32) (-1 : Int32) v_stacked v_tape v_steps v_draft v_stack)) rfl (fun H locs hP hD hS => ?_)
  refine lv_aload_n hx hb dX2_readTape_10 rfl (lv_at hl 0 rfl) ?_
  refine lv_iconst (v := 0) hx hb dX2_readTape_11 (by decide) ?_
  refine mm_put C0 hP hD hS iw_X2 tyX2 tyX2_ok nmX2 0 rfl rfl 5 (by decide) fl_X2_34 rfl rfl rfl (Nat.le_of_ble_eq_true rfl) dX2_readTape_12 (w2 := (wd_X2 cI cL cS cH a v_size v_stepCount (0 : Int32) (0 : Int32) (-1 : Int32) v_stacked v_tape v_steps v_draft v_stack)) rfl (fun H locs hP hD hS => ?_)
  refine lv_aload_n hx hb dX2_readTape_15 rfl (lv_at hl 0 rfl) ?_
  obtain ⟨w_1, w_2, w_3, w_4, hc_5, hf⟩ := mm_bd4s hf
  refine mm_callVF (q0 := 0) (ci := 2) (rest := []) C0 lk_X2_37 (ctX2_readLine (a := a) (d := d - 1) (by omega) hc_5) (by omega) rfl hl.1 rfl (mm_cat rfl) dX2_readTape_16 hP hD hA hS rfl rfl (fun H locs hP hD hS => ?_)
  refine W.eq (g2 := F0 m 19 ls []) rfl ?_
  refine lv_iconst (v := 0) hx hb dX2_readTape_19 (by decide) ?_
  refine lv_istore_n (lv' := [(1, .int (0 : Int32)), (0, .ref (a 0))]) hx hb dX2_readTape_20 rfl hl (by decide) rfl (fun ls hl => ?_)
  exact tX2_readTape_21 hd C0 hA N  N _ _ _ _ _ _ _ _ _ H locs ls hf hP hD hS (lv_sub hl [1, 0] rfl)

theorem dX2_joined_1 : decode cX2_joined 1 = .ok (.lookupswitch 188 #[(37, 176), (38, 105), (42, 160), (43, 152), (45, 156), (47, 164), (60, 119), (61, 130), (62, 141), (124, 91)], 91) := by decide +kernel
theorem nb_dX2_joined_0 : bls_w cX2_joined [(0, [26]), (92, [27]), (93, [154, 0, 7]), (96, [28]), (97, [153, 0, 7]), (100, [4]), (101, [167, 0, 4]), (104, [3]), (105, [172]), (106, [27]), (107, [153, 0, 11]), (110, [28])] := bls_of (by decide +kernel)
theorem dX2_joined_0 : decode cX2_joined 0 = .ok (.iload_n 0, 1) := op_26 nb_dX2_joined_0.1
theorem dX2_joined_92 : decode cX2_joined 92 = .ok (.iload_n 1, 1) := op_27 nb_dX2_joined_0.2.1
set_option maxRecDepth 100000 in
theorem dX2_joined_93 : decode cX2_joined 93 = .ok (.ifCond .ne 7, 3) := (op_154 nb_dX2_joined_0.2.2.1).trans rfl
theorem dX2_joined_96 : decode cX2_joined 96 = .ok (.iload_n 2, 1) := op_28 nb_dX2_joined_0.2.2.2.1
set_option maxRecDepth 100000 in
theorem dX2_joined_97 : decode cX2_joined 97 = .ok (.ifCond .eq 7, 3) := (op_153 nb_dX2_joined_0.2.2.2.2.1).trans rfl
theorem dX2_joined_100 : decode cX2_joined 100 = .ok (.iconst 1, 1) := op_4 nb_dX2_joined_0.2.2.2.2.2.1
set_option maxRecDepth 100000 in
theorem dX2_joined_101 : decode cX2_joined 101 = .ok (.goto 4, 3) := (op_167 nb_dX2_joined_0.2.2.2.2.2.2.1).trans rfl
theorem dX2_joined_104 : decode cX2_joined 104 = .ok (.iconst 0, 1) := op_3 nb_dX2_joined_0.2.2.2.2.2.2.2.1
theorem dX2_joined_105 : decode cX2_joined 105 = .ok (.ireturn, 1) := op_172 nb_dX2_joined_0.2.2.2.2.2.2.2.2.1
theorem dX2_joined_106 : decode cX2_joined 106 = .ok (.iload_n 1, 1) := op_27 nb_dX2_joined_0.2.2.2.2.2.2.2.2.2.1
set_option maxRecDepth 100000 in
theorem dX2_joined_107 : decode cX2_joined 107 = .ok (.ifCond .eq 11, 3) := (op_153 nb_dX2_joined_0.2.2.2.2.2.2.2.2.2.2.1).trans rfl
theorem dX2_joined_110 : decode cX2_joined 110 = .ok (.iload_n 2, 1) := op_28 nb_dX2_joined_0.2.2.2.2.2.2.2.2.2.2.2.1
theorem nb_dX2_joined_111 : bls_w cX2_joined [(111, [153, 0, 7]), (114, [4]), (115, [167, 0, 4]), (118, [3]), (119, [172]), (120, [27]), (121, [28]), (122, [162, 0, 7]), (125, [4]), (126, [167, 0, 4]), (129, [3]), (130, [172])] := bls_of (by decide +kernel)
set_option maxRecDepth 100000 in
theorem dX2_joined_111 : decode cX2_joined 111 = .ok (.ifCond .eq 7, 3) := (op_153 nb_dX2_joined_111.1).trans rfl
theorem dX2_joined_114 : decode cX2_joined 114 = .ok (.iconst 1, 1) := op_4 nb_dX2_joined_111.2.1
set_option maxRecDepth 100000 in
theorem dX2_joined_115 : decode cX2_joined 115 = .ok (.goto 4, 3) := (op_167 nb_dX2_joined_111.2.2.1).trans rfl
theorem dX2_joined_118 : decode cX2_joined 118 = .ok (.iconst 0, 1) := op_3 nb_dX2_joined_111.2.2.2.1
theorem dX2_joined_119 : decode cX2_joined 119 = .ok (.ireturn, 1) := op_172 nb_dX2_joined_111.2.2.2.2.1
theorem dX2_joined_120 : decode cX2_joined 120 = .ok (.iload_n 1, 1) := op_27 nb_dX2_joined_111.2.2.2.2.2.1
theorem dX2_joined_121 : decode cX2_joined 121 = .ok (.iload_n 2, 1) := op_28 nb_dX2_joined_111.2.2.2.2.2.2.1
set_option maxRecDepth 100000 in
theorem dX2_joined_122 : decode cX2_joined 122 = .ok (.if_icmp .ge 7, 3) := (op_162 nb_dX2_joined_111.2.2.2.2.2.2.2.1).trans rfl
theorem dX2_joined_125 : decode cX2_joined 125 = .ok (.iconst 1, 1) := op_4 nb_dX2_joined_111.2.2.2.2.2.2.2.2.1
set_option maxRecDepth 100000 in
theorem dX2_joined_126 : decode cX2_joined 126 = .ok (.goto 4, 3) := (op_167 nb_dX2_joined_111.2.2.2.2.2.2.2.2.2.1).trans rfl
theorem dX2_joined_129 : decode cX2_joined 129 = .ok (.iconst 0, 1) := op_3 nb_dX2_joined_111.2.2.2.2.2.2.2.2.2.2.1
theorem dX2_joined_130 : decode cX2_joined 130 = .ok (.ireturn, 1) := op_172 nb_dX2_joined_111.2.2.2.2.2.2.2.2.2.2.2.1
theorem nb_dX2_joined_131 : bls_w cX2_joined [(131, [27]), (132, [28]), (133, [160, 0, 7]), (136, [4]), (137, [167, 0, 4]), (140, [3]), (141, [172]), (142, [27]), (143, [28]), (144, [164, 0, 7]), (147, [4]), (148, [167, 0, 4])] := bls_of (by decide +kernel)
theorem dX2_joined_131 : decode cX2_joined 131 = .ok (.iload_n 1, 1) := op_27 nb_dX2_joined_131.1
theorem dX2_joined_132 : decode cX2_joined 132 = .ok (.iload_n 2, 1) := op_28 nb_dX2_joined_131.2.1
set_option maxRecDepth 100000 in
theorem dX2_joined_133 : decode cX2_joined 133 = .ok (.if_icmp .ne 7, 3) := (op_160 nb_dX2_joined_131.2.2.1).trans rfl
theorem dX2_joined_136 : decode cX2_joined 136 = .ok (.iconst 1, 1) := op_4 nb_dX2_joined_131.2.2.2.1
set_option maxRecDepth 100000 in
theorem dX2_joined_137 : decode cX2_joined 137 = .ok (.goto 4, 3) := (op_167 nb_dX2_joined_131.2.2.2.2.1).trans rfl
theorem dX2_joined_140 : decode cX2_joined 140 = .ok (.iconst 0, 1) := op_3 nb_dX2_joined_131.2.2.2.2.2.1
theorem dX2_joined_141 : decode cX2_joined 141 = .ok (.ireturn, 1) := op_172 nb_dX2_joined_131.2.2.2.2.2.2.1
theorem dX2_joined_142 : decode cX2_joined 142 = .ok (.iload_n 1, 1) := op_27 nb_dX2_joined_131.2.2.2.2.2.2.2.1
theorem dX2_joined_143 : decode cX2_joined 143 = .ok (.iload_n 2, 1) := op_28 nb_dX2_joined_131.2.2.2.2.2.2.2.2.1
set_option maxRecDepth 100000 in
theorem dX2_joined_144 : decode cX2_joined 144 = .ok (.if_icmp .le 7, 3) := (op_164 nb_dX2_joined_131.2.2.2.2.2.2.2.2.2.1).trans rfl
theorem dX2_joined_147 : decode cX2_joined 147 = .ok (.iconst 1, 1) := op_4 nb_dX2_joined_131.2.2.2.2.2.2.2.2.2.2.1
set_option maxRecDepth 100000 in
theorem dX2_joined_148 : decode cX2_joined 148 = .ok (.goto 4, 3) := (op_167 nb_dX2_joined_131.2.2.2.2.2.2.2.2.2.2.2.1).trans rfl
theorem nb_dX2_joined_151 : bls_w cX2_joined [(151, [3]), (152, [172]), (153, [27]), (154, [28]), (155, [96]), (156, [172]), (157, [27]), (158, [28]), (159, [100]), (160, [172]), (161, [27]), (162, [28])] := bls_of (by decide +kernel)
theorem dX2_joined_151 : decode cX2_joined 151 = .ok (.iconst 0, 1) := op_3 nb_dX2_joined_151.1
theorem dX2_joined_152 : decode cX2_joined 152 = .ok (.ireturn, 1) := op_172 nb_dX2_joined_151.2.1
theorem dX2_joined_153 : decode cX2_joined 153 = .ok (.iload_n 1, 1) := op_27 nb_dX2_joined_151.2.2.1
theorem dX2_joined_154 : decode cX2_joined 154 = .ok (.iload_n 2, 1) := op_28 nb_dX2_joined_151.2.2.2.1
theorem dX2_joined_155 : decode cX2_joined 155 = .ok (.iadd, 1) := op_96 nb_dX2_joined_151.2.2.2.2.1
theorem dX2_joined_156 : decode cX2_joined 156 = .ok (.ireturn, 1) := op_172 nb_dX2_joined_151.2.2.2.2.2.1
theorem dX2_joined_157 : decode cX2_joined 157 = .ok (.iload_n 1, 1) := op_27 nb_dX2_joined_151.2.2.2.2.2.2.1
theorem dX2_joined_158 : decode cX2_joined 158 = .ok (.iload_n 2, 1) := op_28 nb_dX2_joined_151.2.2.2.2.2.2.2.1
theorem dX2_joined_159 : decode cX2_joined 159 = .ok (.isub, 1) := op_100 nb_dX2_joined_151.2.2.2.2.2.2.2.2.1
theorem dX2_joined_160 : decode cX2_joined 160 = .ok (.ireturn, 1) := op_172 nb_dX2_joined_151.2.2.2.2.2.2.2.2.2.1
theorem dX2_joined_161 : decode cX2_joined 161 = .ok (.iload_n 1, 1) := op_27 nb_dX2_joined_151.2.2.2.2.2.2.2.2.2.2.1
theorem dX2_joined_162 : decode cX2_joined 162 = .ok (.iload_n 2, 1) := op_28 nb_dX2_joined_151.2.2.2.2.2.2.2.2.2.2.2.1
theorem nb_dX2_joined_163 : bls_w cX2_joined [(163, [104]), (164, [172]), (165, [28]), (166, [154, 0, 7]), (169, [3]), (170, [167, 0, 6]), (173, [27]), (174, [28]), (175, [108]), (176, [172]), (177, [28]), (178, [154, 0, 7])] := bls_of (by decide +kernel)
theorem dX2_joined_163 : decode cX2_joined 163 = .ok (.imul, 1) := op_104 nb_dX2_joined_163.1
theorem dX2_joined_164 : decode cX2_joined 164 = .ok (.ireturn, 1) := op_172 nb_dX2_joined_163.2.1
theorem dX2_joined_165 : decode cX2_joined 165 = .ok (.iload_n 2, 1) := op_28 nb_dX2_joined_163.2.2.1
set_option maxRecDepth 100000 in
theorem dX2_joined_166 : decode cX2_joined 166 = .ok (.ifCond .ne 7, 3) := (op_154 nb_dX2_joined_163.2.2.2.1).trans rfl
theorem dX2_joined_169 : decode cX2_joined 169 = .ok (.iconst 0, 1) := op_3 nb_dX2_joined_163.2.2.2.2.1
set_option maxRecDepth 100000 in
theorem dX2_joined_170 : decode cX2_joined 170 = .ok (.goto 6, 3) := (op_167 nb_dX2_joined_163.2.2.2.2.2.1).trans rfl
theorem dX2_joined_173 : decode cX2_joined 173 = .ok (.iload_n 1, 1) := op_27 nb_dX2_joined_163.2.2.2.2.2.2.1
theorem dX2_joined_174 : decode cX2_joined 174 = .ok (.iload_n 2, 1) := op_28 nb_dX2_joined_163.2.2.2.2.2.2.2.1
theorem dX2_joined_175 : decode cX2_joined 175 = .ok (.idiv, 1) := op_108 nb_dX2_joined_163.2.2.2.2.2.2.2.2.1
theorem dX2_joined_176 : decode cX2_joined 176 = .ok (.ireturn, 1) := op_172 nb_dX2_joined_163.2.2.2.2.2.2.2.2.2.1
theorem dX2_joined_177 : decode cX2_joined 177 = .ok (.iload_n 2, 1) := op_28 nb_dX2_joined_163.2.2.2.2.2.2.2.2.2.2.1
set_option maxRecDepth 100000 in
theorem dX2_joined_178 : decode cX2_joined 178 = .ok (.ifCond .ne 7, 3) := (op_154 nb_dX2_joined_163.2.2.2.2.2.2.2.2.2.2.2.1).trans rfl
theorem nb_dX2_joined_181 : bls_w cX2_joined [(181, [3]), (182, [167, 0, 6]), (185, [27]), (186, [28]), (187, [112]), (188, [172]), (189, [3]), (190, [172])] := bls_of (by decide +kernel)
theorem dX2_joined_181 : decode cX2_joined 181 = .ok (.iconst 0, 1) := op_3 nb_dX2_joined_181.1
set_option maxRecDepth 100000 in
theorem dX2_joined_182 : decode cX2_joined 182 = .ok (.goto 6, 3) := (op_167 nb_dX2_joined_181.2.1).trans rfl
theorem dX2_joined_185 : decode cX2_joined 185 = .ok (.iload_n 1, 1) := op_27 nb_dX2_joined_181.2.2.1
theorem dX2_joined_186 : decode cX2_joined 186 = .ok (.iload_n 2, 1) := op_28 nb_dX2_joined_181.2.2.2.1
theorem dX2_joined_187 : decode cX2_joined 187 = .ok (.irem, 1) := op_112 nb_dX2_joined_181.2.2.2.2.1
theorem dX2_joined_188 : decode cX2_joined 188 = .ok (.ireturn, 1) := op_172 nb_dX2_joined_181.2.2.2.2.2.1
theorem dX2_joined_189 : decode cX2_joined 189 = .ok (.iconst 0, 1) := op_3 nb_dX2_joined_181.2.2.2.2.2.2.1
theorem dX2_joined_190 : decode cX2_joined 190 = .ok (.ireturn, 1) := op_172 nb_dX2_joined_181.2.2.2.2.2.2.2.1
def fX2_joined (N : Nat) (x0 : Int32) (x1 : Int32) (x2 : Int32) : Option (Int32) :=
    if x0 = (37 : Int32) then
    (if x2 = 0 then
    (some ((0 : Int32)))
    else (mm_ck (mm_nz x2) (some ((mm_rem x1 x2)))))
    else (if x0 = (38 : Int32) then
    (if x1 = 0 then
    (some ((0 : Int32)))
    else (if x2 = 0 then
    (some ((0 : Int32)))
    else (some ((1 : Int32)))))
    else (if x0 = (42 : Int32) then
    (some ((x1 * x2)))
    else (if x0 = (43 : Int32) then
    (some ((x1 + x2)))
    else (if x0 = (45 : Int32) then
    (some ((x1 - x2)))
    else (if x0 = (47 : Int32) then
    (if x2 = 0 then
    (some ((0 : Int32)))
    else (mm_ck (mm_nz x2) (some ((x1 / x2)))))
    else (if x0 = (60 : Int32) then
    (if x2 ≤ x1 then
    (some ((0 : Int32)))
    else (some ((1 : Int32))))
    else (if x0 = (61 : Int32) then
    (if x1 = x2 then
    (some ((1 : Int32)))
    else (some ((0 : Int32))))
    else (if x0 = (62 : Int32) then
    (if x1 ≤ x2 then
    (some ((0 : Int32)))
    else (some ((1 : Int32))))
    else (if x0 = (124 : Int32) then
    (if x1 = 0 then
    (if x2 = 0 then
    (some ((0 : Int32)))
    else (some ((1 : Int32))))
    else (some ((1 : Int32))))
    else (some ((0 : Int32))))))))))))

set_option maxHeartbeats 4000000 in
set_option maxRecDepth 100000 in
theorem ctX2_joined {l : Launch} {D : va_G} {cI cL cS cH : ClassId} {x0 : Int32} {x1 : Int32} {x2 : Int32}  {r : Int32} {N d : Nat} (hd : 1 ≤ d) (hf : fX2_joined N x0 x1 x2 = some r) : mm_Ct l yX2_joined cX2_joined 3 (some .int) d D (mm_T cI cL cS cH) [.int x0, .int x1, .int x2] ([] : va_W) ([] : va_W) (some (.int r)) := by
  refine mm_of (by decide) (Nat.le_of_ble_eq_true rfl) ?_
  intro p e s m args below meth c A H locs ls C0 hP hD hA hS hl
  have C0 : mm_Cx p s m args meth c RX2 cX2_joined 3 (some .int) D (mm_T cI cL cS cH) A := C0
  obtain ⟨hx, hb, hml, hown, hts, hr, hlocks, hK, hSt⟩ := id C0
  have hl : lv_has ls 3 [(0, .int x0), (1, .int x1), (2, .int x2)] := hl
  unfold fX2_joined at hf
  refine lv_iload_n hx hb dX2_joined_0 rfl (lv_at hl 0 rfl) ?_
  by_cases c_1 : x0 = (37 : Int32)
  · have hf := mm_ip hf c_1
    refine lv_lookup (off := 176) (tgt := 177) hx hb dX2_joined_1 (by decide) (by rw [c_1]; first | done | rfl | decide) (by decide) ?_
    refine lv_iload_n hx hb dX2_joined_177 rfl (lv_at hl 2 rfl) ?_
    refine lv_if_ne (tgt := 185) hx hb dX2_joined_178 (by decide) (fun c_2 => ?_) (fun c_2 => ?_)
    · have hf := mm_in hf c_2
      refine lv_iload_n hx hb dX2_joined_185 rfl (lv_at hl 1 rfl) ?_
      refine lv_iload_n hx hb dX2_joined_186 rfl (lv_at hl 2 rfl) ?_
      obtain ⟨h_3, hf⟩ := mm_cks hf
      refine lv_irem hx hb dX2_joined_187 (mm_nzs h_3) ?_
      obtain rfl := mm_inj1 hf
      exact mm_iret C0 hP hD hS dX2_joined_188
    · have hf := mm_ip hf c_2
      refine lv_iconst (v := 0) hx hb dX2_joined_181 (by decide) ?_
      refine lv_goto (tgt := 188) hx hb dX2_joined_182 (by decide) ?_
      obtain rfl := mm_inj1 hf
      exact mm_iret C0 hP hD hS dX2_joined_188
  · have hf := mm_in hf c_1
    by_cases c_4 : x0 = (38 : Int32)
    · have hf := mm_ip hf c_4
      refine lv_lookup (off := 105) (tgt := 106) hx hb dX2_joined_1 (by decide) (by rw [c_4]; first | done | rfl | decide) (by decide) ?_
      refine lv_iload_n hx hb dX2_joined_106 rfl (lv_at hl 1 rfl) ?_
      refine lv_if_eq (tgt := 118) hx hb dX2_joined_107 (by decide) (fun c_5 => ?_) (fun c_5 => ?_)
      · have hf := mm_ip hf c_5
        refine lv_iconst (v := 0) hx hb dX2_joined_118 (by decide) ?_
        obtain rfl := mm_inj1 hf
        exact mm_iret C0 hP hD hS dX2_joined_119
      · have hf := mm_in hf c_5
        refine lv_iload_n hx hb dX2_joined_110 rfl (lv_at hl 2 rfl) ?_
        refine lv_if_eq (tgt := 118) hx hb dX2_joined_111 (by decide) (fun c_6 => ?_) (fun c_6 => ?_)
        · have hf := mm_ip hf c_6
          refine lv_iconst (v := 0) hx hb dX2_joined_118 (by decide) ?_
          obtain rfl := mm_inj1 hf
          exact mm_iret C0 hP hD hS dX2_joined_119
        · have hf := mm_in hf c_6
          refine lv_iconst (v := 1) hx hb dX2_joined_114 (by decide) ?_
          refine lv_goto (tgt := 119) hx hb dX2_joined_115 (by decide) ?_
          obtain rfl := mm_inj1 hf
          exact mm_iret C0 hP hD hS dX2_joined_119
    · have hf := mm_in hf c_4
      by_cases c_7 : x0 = (42 : Int32)
      · have hf := mm_ip hf c_7
        refine lv_lookup (off := 160) (tgt := 161) hx hb dX2_joined_1 (by decide) (by rw [c_7]; first | done | rfl | decide) (by decide) ?_
        refine lv_iload_n hx hb dX2_joined_161 rfl (lv_at hl 1 rfl) ?_
        refine lv_iload_n hx hb dX2_joined_162 rfl (lv_at hl 2 rfl) ?_
        refine lv_imul hx hb dX2_joined_163 ?_
        obtain rfl := mm_inj1 hf
        exact mm_iret C0 hP hD hS dX2_joined_164
      · have hf := mm_in hf c_7
        by_cases c_8 : x0 = (43 : Int32)
        · have hf := mm_ip hf c_8
          refine lv_lookup (off := 152) (tgt := 153) hx hb dX2_joined_1 (by decide) (by rw [c_8]; first | done | rfl | decide) (by decide) ?_
          refine lv_iload_n hx hb dX2_joined_153 rfl (lv_at hl 1 rfl) ?_
          refine lv_iload_n hx hb dX2_joined_154 rfl (lv_at hl 2 rfl) ?_
          refine lv_iadd hx hb dX2_joined_155 ?_
          obtain rfl := mm_inj1 hf
          exact mm_iret C0 hP hD hS dX2_joined_156
        · have hf := mm_in hf c_8
          by_cases c_9 : x0 = (45 : Int32)
          · have hf := mm_ip hf c_9
            refine lv_lookup (off := 156) (tgt := 157) hx hb dX2_joined_1 (by decide) (by rw [c_9]; first | done | rfl | decide) (by decide) ?_
            refine lv_iload_n hx hb dX2_joined_157 rfl (lv_at hl 1 rfl) ?_
            refine lv_iload_n hx hb dX2_joined_158 rfl (lv_at hl 2 rfl) ?_
            refine lv_isub hx hb dX2_joined_159 ?_
            obtain rfl := mm_inj1 hf
            exact mm_iret C0 hP hD hS dX2_joined_160
          · have hf := mm_in hf c_9
            by_cases c_10 : x0 = (47 : Int32)
            · have hf := mm_ip hf c_10
              refine lv_lookup (off := 164) (tgt := 165) hx hb dX2_joined_1 (by decide) (by rw [c_10]; first | done | rfl | decide) (by decide) ?_
              refine lv_iload_n hx hb dX2_joined_165 rfl (lv_at hl 2 rfl) ?_
              refine lv_if_ne (tgt := 173) hx hb dX2_joined_166 (by decide) (fun c_11 => ?_) (fun c_11 => ?_)
              · have hf := mm_in hf c_11
                refine lv_iload_n hx hb dX2_joined_173 rfl (lv_at hl 1 rfl) ?_
                refine lv_iload_n hx hb dX2_joined_174 rfl (lv_at hl 2 rfl) ?_
                obtain ⟨h_12, hf⟩ := mm_cks hf
                refine lv_idiv hx hb dX2_joined_175 (mm_nzs h_12) ?_
                obtain rfl := mm_inj1 hf
                exact mm_iret C0 hP hD hS dX2_joined_176
              · have hf := mm_ip hf c_11
                refine lv_iconst (v := 0) hx hb dX2_joined_169 (by decide) ?_
                refine lv_goto (tgt := 176) hx hb dX2_joined_170 (by decide) ?_
                obtain rfl := mm_inj1 hf
                exact mm_iret C0 hP hD hS dX2_joined_176
            · have hf := mm_in hf c_10
              by_cases c_13 : x0 = (60 : Int32)
              · have hf := mm_ip hf c_13
                refine lv_lookup (off := 119) (tgt := 120) hx hb dX2_joined_1 (by decide) (by rw [c_13]; first | done | rfl | decide) (by decide) ?_
                refine lv_iload_n hx hb dX2_joined_120 rfl (lv_at hl 1 rfl) ?_
                refine lv_iload_n hx hb dX2_joined_121 rfl (lv_at hl 2 rfl) ?_
                refine lv_icmp_ge (tgt := 129) hx hb dX2_joined_122 (by decide) (fun c_14 => ?_) (fun c_14 => ?_)
                · have hf := mm_ip hf c_14
                  refine lv_iconst (v := 0) hx hb dX2_joined_129 (by decide) ?_
                  obtain rfl := mm_inj1 hf
                  exact mm_iret C0 hP hD hS dX2_joined_130
                · have hf := mm_in hf c_14
                  refine lv_iconst (v := 1) hx hb dX2_joined_125 (by decide) ?_
                  refine lv_goto (tgt := 130) hx hb dX2_joined_126 (by decide) ?_
                  obtain rfl := mm_inj1 hf
                  exact mm_iret C0 hP hD hS dX2_joined_130
              · have hf := mm_in hf c_13
                by_cases c_15 : x0 = (61 : Int32)
                · have hf := mm_ip hf c_15
                  refine lv_lookup (off := 130) (tgt := 131) hx hb dX2_joined_1 (by decide) (by rw [c_15]; first | done | rfl | decide) (by decide) ?_
                  refine lv_iload_n hx hb dX2_joined_131 rfl (lv_at hl 1 rfl) ?_
                  refine lv_iload_n hx hb dX2_joined_132 rfl (lv_at hl 2 rfl) ?_
                  refine lv_icmp_ne (tgt := 140) hx hb dX2_joined_133 (by decide) (fun c_16 => ?_) (fun c_16 => ?_)
                  · have hf := mm_in hf c_16
                    refine lv_iconst (v := 0) hx hb dX2_joined_140 (by decide) ?_
                    obtain rfl := mm_inj1 hf
                    exact mm_iret C0 hP hD hS dX2_joined_141
                  · have hf := mm_ip hf c_16
                    refine lv_iconst (v := 1) hx hb dX2_joined_136 (by decide) ?_
                    refine lv_goto (tgt := 141) hx hb dX2_joined_137 (by decide) ?_
                    obtain rfl := mm_inj1 hf
                    exact mm_iret C0 hP hD hS dX2_joined_141
                · have hf := mm_in hf c_15
                  by_cases c_17 : x0 = (62 : Int32)
                  · have hf := mm_ip hf c_17
                    refine lv_lookup (off := 141) (tgt := 142) hx hb dX2_joined_1 (by decide) (by rw [c_17]; first | done | rfl | decide) (by decide) ?_
                    refine lv_iload_n hx hb dX2_joined_142 rfl (lv_at hl 1 rfl) ?_
                    refine lv_iload_n hx hb dX2_joined_143 rfl (lv_at hl 2 rfl) ?_
                    refine lv_icmp_le (tgt := 151) hx hb dX2_joined_144 (by decide) (fun c_18 => ?_) (fun c_18 => ?_)
                    · have hf := mm_ip hf c_18
                      refine lv_iconst (v := 0) hx hb dX2_joined_151 (by decide) ?_
                      obtain rfl := mm_inj1 hf
                      exact mm_iret C0 hP hD hS dX2_joined_152
                    · have hf := mm_in hf c_18
                      refine lv_iconst (v := 1) hx hb dX2_joined_147 (by decide) ?_
                      refine lv_goto (tgt := 152) hx hb dX2_joined_148 (by decide) ?_
                      obtain rfl := mm_inj1 hf
                      exact mm_iret C0 hP hD hS dX2_joined_152
                  · have hf := mm_in hf c_17
                    by_cases c_19 : x0 = (124 : Int32)
                    · have hf := mm_ip hf c_19
                      refine lv_lookup (off := 91) (tgt := 92) hx hb dX2_joined_1 (by decide) (by rw [c_19]; first | done | rfl | decide) (by decide) ?_
                      refine lv_iload_n hx hb dX2_joined_92 rfl (lv_at hl 1 rfl) ?_
                      refine lv_if_ne (tgt := 100) hx hb dX2_joined_93 (by decide) (fun c_20 => ?_) (fun c_20 => ?_)
                      · have hf := mm_in hf c_20
                        refine lv_iconst (v := 1) hx hb dX2_joined_100 (by decide) ?_
                        refine lv_goto (tgt := 105) hx hb dX2_joined_101 (by decide) ?_
                        obtain rfl := mm_inj1 hf
                        exact mm_iret C0 hP hD hS dX2_joined_105
                      · have hf := mm_ip hf c_20
                        refine lv_iload_n hx hb dX2_joined_96 rfl (lv_at hl 2 rfl) ?_
                        refine lv_if_eq (tgt := 104) hx hb dX2_joined_97 (by decide) (fun c_21 => ?_) (fun c_21 => ?_)
                        · have hf := mm_ip hf c_21
                          refine lv_iconst (v := 0) hx hb dX2_joined_104 (by decide) ?_
                          obtain rfl := mm_inj1 hf
                          exact mm_iret C0 hP hD hS dX2_joined_105
                        · have hf := mm_in hf c_21
                          refine lv_iconst (v := 1) hx hb dX2_joined_100 (by decide) ?_
                          refine lv_goto (tgt := 105) hx hb dX2_joined_101 (by decide) ?_
                          obtain rfl := mm_inj1 hf
                          exact mm_iret C0 hP hD hS dX2_joined_105
                    · have hf := mm_in hf c_19
                      refine lv_lookup (off := 188) (tgt := 189) hx hb dX2_joined_1 (by decide) ((lv_osw c_1 (by decide)).trans ((lv_osw c_4 (by decide)).trans ((lv_osw c_7 (by decide)).trans ((lv_osw c_8 (by decide)).trans ((lv_osw c_9 (by decide)).trans ((lv_osw c_10 (by decide)).trans ((lv_osw c_13 (by decide)).trans ((lv_osw c_15 (by decide)).trans ((lv_osw c_17 (by decide)).trans ((lv_osw c_19 (by decide)).trans (rfl))))))))))) (by decide) ?_
                      refine lv_iconst (v := 0) hx hb dX2_joined_189 (by decide) ?_
                      obtain rfl := mm_inj1 hf
                      exact mm_iret C0 hP hD hS dX2_joined_190

theorem nb_dX2_pop_0 : bls_w cX2_pop [(0, [42]), (1, [180, 0, 91]), (4, [154, 0, 5]), (7, [3]), (8, [172]), (9, [42]), (10, [89]), (11, [180, 0, 91]), (14, [4]), (15, [100]), (16, [181, 0, 91]), (19, [42])] := bls_of (by decide +kernel)
theorem dX2_pop_0 : decode cX2_pop 0 = .ok (.aload_n 0, 1) := op_42 nb_dX2_pop_0.1
set_option maxRecDepth 100000 in
theorem dX2_pop_1 : decode cX2_pop 1 = .ok (.getfield 91, 3) := (op_180 nb_dX2_pop_0.2.1).trans rfl
set_option maxRecDepth 100000 in
theorem dX2_pop_4 : decode cX2_pop 4 = .ok (.ifCond .ne 5, 3) := (op_154 nb_dX2_pop_0.2.2.1).trans rfl
theorem dX2_pop_7 : decode cX2_pop 7 = .ok (.iconst 0, 1) := op_3 nb_dX2_pop_0.2.2.2.1
theorem dX2_pop_8 : decode cX2_pop 8 = .ok (.ireturn, 1) := op_172 nb_dX2_pop_0.2.2.2.2.1
theorem dX2_pop_9 : decode cX2_pop 9 = .ok (.aload_n 0, 1) := op_42 nb_dX2_pop_0.2.2.2.2.2.1
theorem dX2_pop_10 : decode cX2_pop 10 = .ok (.dup, 1) := op_89 nb_dX2_pop_0.2.2.2.2.2.2.1
set_option maxRecDepth 100000 in
theorem dX2_pop_11 : decode cX2_pop 11 = .ok (.getfield 91, 3) := (op_180 nb_dX2_pop_0.2.2.2.2.2.2.2.1).trans rfl
theorem dX2_pop_14 : decode cX2_pop 14 = .ok (.iconst 1, 1) := op_4 nb_dX2_pop_0.2.2.2.2.2.2.2.2.1
theorem dX2_pop_15 : decode cX2_pop 15 = .ok (.isub, 1) := op_100 nb_dX2_pop_0.2.2.2.2.2.2.2.2.2.1
set_option maxRecDepth 100000 in
theorem dX2_pop_16 : decode cX2_pop 16 = .ok (.putfield 91, 3) := (op_181 nb_dX2_pop_0.2.2.2.2.2.2.2.2.2.2.1).trans rfl
theorem dX2_pop_19 : decode cX2_pop 19 = .ok (.aload_n 0, 1) := op_42 nb_dX2_pop_0.2.2.2.2.2.2.2.2.2.2.2.1
theorem nb_dX2_pop_20 : bls_w cX2_pop [(20, [180, 0, 21]), (23, [42]), (24, [180, 0, 91]), (27, [46]), (28, [172])] := bls_of (by decide +kernel)
set_option maxRecDepth 100000 in
theorem dX2_pop_20 : decode cX2_pop 20 = .ok (.getfield 21, 3) := (op_180 nb_dX2_pop_20.1).trans rfl
theorem dX2_pop_23 : decode cX2_pop 23 = .ok (.aload_n 0, 1) := op_42 nb_dX2_pop_20.2.1
set_option maxRecDepth 100000 in
theorem dX2_pop_24 : decode cX2_pop 24 = .ok (.getfield 91, 3) := (op_180 nb_dX2_pop_20.2.2.1).trans rfl
theorem dX2_pop_27 : decode cX2_pop 27 = .ok (.iaload, 1) := op_46 nb_dX2_pop_20.2.2.2.1
theorem dX2_pop_28 : decode cX2_pop 28 = .ok (.ireturn, 1) := op_172 nb_dX2_pop_20.2.2.2.2.1
def fX2_pop (N : Nat) (v_stacked : Int32) (v_stack : List Int32) : Option (Int32 × Int32) :=
    if v_stacked = 0 then
    (some ((0 : Int32), v_stacked))
    else (mm_nm ((v_stacked - (1 : Int32))) (fun (y_2 : Int32) =>
    mm_ck (mm_inb y_2 v_stack.length) (some ((mm_ig v_stack y_2), y_2))))

set_option maxHeartbeats 4000000 in
set_option maxRecDepth 100000 in
theorem ctX2_pop {l : Launch} {D : va_G} {cI cL cS cH : ClassId} {a : Nat → Nat}  {v_size : Int32} {v_stepCount : Int32} {v_draftCount : Int32} {v_place : Int32} {v_fault : Int32} {v_stacked : Int32} {v_tape : List Int32} {v_steps : List Int32} {v_draft : List Int32} {v_stack : List Int32} {r : Int32} {w_stacked : Int32} {N d : Nat} (hd : 1 ≤ d) (hf : fX2_pop N v_stacked v_stack = some (r, w_stacked)) : mm_Ct l yX2_pop cX2_pop 1 (some .int) d D (mm_T cI cL cS cH) [.ref (a 0)] (wd_X2 cI cL cS cH a v_size v_stepCount v_draftCount v_place v_fault v_stacked v_tape v_steps v_draft v_stack) (wd_X2 cI cL cS cH a v_size v_stepCount v_draftCount v_place v_fault w_stacked v_tape v_steps v_draft v_stack) (some (.int r)) := by
  refine mm_of (by decide) (Nat.le_of_ble_eq_true rfl) ?_
  intro p e s m args below meth c A H locs ls C0 hP hD hA hS hl
  have C0 : mm_Cx p s m args meth c RX2 cX2_pop 1 (some .int) D (mm_T cI cL cS cH) A := C0
  obtain ⟨hx, hb, hml, hown, hts, hr, hlocks, hK, hSt⟩ := id C0
  have hl : lv_has ls 1 [(0, .ref (a 0))] := hl
  unfold fX2_pop at hf
  refine lv_aload_n hx hb dX2_pop_0 rfl (lv_at hl 0 rfl) ?_
  refine mm_get C0 hP iw_X2 0 rfl rfl 9 (by decide) fl_X2_91 rfl dX2_pop_1 ?_
  refine lv_if_ne (tgt := 9) hx hb dX2_pop_4 (by decide) (fun c_1 => ?_) (fun c_1 => ?_)
  · have hf := mm_in hf c_1
    refine lv_aload_n hx hb dX2_pop_9 rfl (lv_at hl 0 rfl) ?_
    refine lv_dup hx hb dX2_pop_10 rfl ?_
    refine mm_get C0 hP iw_X2 0 rfl rfl 9 (by decide) fl_X2_91 rfl dX2_pop_11 ?_
    refine lv_iconst (v := 1) hx hb dX2_pop_14 (by decide) ?_
    refine lv_isub hx hb dX2_pop_15 ?_
    refine lv_topi (fun y_2 ey_2 => ?_)
    have hf := mm_nms hf ey_2
    refine mm_put C0 hP hD hS iw_X2 tyX2 tyX2_ok nmX2 0 rfl rfl 9 (by decide) fl_X2_91 rfl rfl rfl (Nat.le_of_ble_eq_true rfl) dX2_pop_16 (w2 := (wd_X2 cI cL cS cH a v_size v_stepCount v_draftCount v_place v_fault y_2 v_tape v_steps v_draft v_stack)) rfl (fun H locs hP hD hS => ?_)
    refine lv_aload_n hx hb dX2_pop_19 rfl (lv_at hl 0 rfl) ?_
    refine mm_get C0 hP iw_X2 0 rfl rfl 8 (by decide) fl_X2_21 rfl dX2_pop_20 ?_
    refine lv_aload_n hx hb dX2_pop_23 rfl (lv_at hl 0 rfl) ?_
    refine mm_get C0 hP iw_X2 0 rfl rfl 9 (by decide) fl_X2_91 rfl dX2_pop_24 ?_
    obtain ⟨h_3, hf⟩ := mm_cks hf
    refine mm_iald C0 hP 4 rfl h_3 dX2_pop_27 ?_
    apply mm_sub2 hf
    exact mm_iret C0 hP hD hS dX2_pop_28
  · have hf := mm_ip hf c_1
    refine lv_iconst (v := 0) hx hb dX2_pop_7 (by decide) ?_
    apply mm_sub2 hf
    exact mm_iret C0 hP hD hS dX2_pop_8

theorem nb_dX2_push_0 : bls_w cX2_push [(0, [42]), (1, [180, 0, 91]), (4, [16, 121]), (6, [162, 0, 23]), (9, [42]), (10, [180, 0, 21]), (13, [42]), (14, [180, 0, 91]), (17, [27]), (18, [79]), (19, [42]), (20, [89])] := bls_of (by decide +kernel)
theorem dX2_push_0 : decode cX2_push 0 = .ok (.aload_n 0, 1) := op_42 nb_dX2_push_0.1
set_option maxRecDepth 100000 in
theorem dX2_push_1 : decode cX2_push 1 = .ok (.getfield 91, 3) := (op_180 nb_dX2_push_0.2.1).trans rfl
set_option maxRecDepth 100000 in
theorem dX2_push_4 : decode cX2_push 4 = .ok (.bipush 121, 2) := (op_16 nb_dX2_push_0.2.2.1).trans rfl
set_option maxRecDepth 100000 in
theorem dX2_push_6 : decode cX2_push 6 = .ok (.if_icmp .ge 23, 3) := (op_162 nb_dX2_push_0.2.2.2.1).trans rfl
theorem dX2_push_9 : decode cX2_push 9 = .ok (.aload_n 0, 1) := op_42 nb_dX2_push_0.2.2.2.2.1
set_option maxRecDepth 100000 in
theorem dX2_push_10 : decode cX2_push 10 = .ok (.getfield 21, 3) := (op_180 nb_dX2_push_0.2.2.2.2.2.1).trans rfl
theorem dX2_push_13 : decode cX2_push 13 = .ok (.aload_n 0, 1) := op_42 nb_dX2_push_0.2.2.2.2.2.2.1
set_option maxRecDepth 100000 in
theorem dX2_push_14 : decode cX2_push 14 = .ok (.getfield 91, 3) := (op_180 nb_dX2_push_0.2.2.2.2.2.2.2.1).trans rfl
theorem dX2_push_17 : decode cX2_push 17 = .ok (.iload_n 1, 1) := op_27 nb_dX2_push_0.2.2.2.2.2.2.2.2.1
theorem dX2_push_18 : decode cX2_push 18 = .ok (.iastore, 1) := op_79 nb_dX2_push_0.2.2.2.2.2.2.2.2.2.1
theorem dX2_push_19 : decode cX2_push 19 = .ok (.aload_n 0, 1) := op_42 nb_dX2_push_0.2.2.2.2.2.2.2.2.2.2.1
theorem dX2_push_20 : decode cX2_push 20 = .ok (.dup, 1) := op_89 nb_dX2_push_0.2.2.2.2.2.2.2.2.2.2.2.1
theorem nb_dX2_push_21 : bls_w cX2_push [(21, [180, 0, 91]), (24, [4]), (25, [96]), (26, [181, 0, 91]), (29, [177])] := bls_of (by decide +kernel)
set_option maxRecDepth 100000 in
theorem dX2_push_21 : decode cX2_push 21 = .ok (.getfield 91, 3) := (op_180 nb_dX2_push_21.1).trans rfl
theorem dX2_push_24 : decode cX2_push 24 = .ok (.iconst 1, 1) := op_4 nb_dX2_push_21.2.1
theorem dX2_push_25 : decode cX2_push 25 = .ok (.iadd, 1) := op_96 nb_dX2_push_21.2.2.1
set_option maxRecDepth 100000 in
theorem dX2_push_26 : decode cX2_push 26 = .ok (.putfield 91, 3) := (op_181 nb_dX2_push_21.2.2.2.1).trans rfl
theorem dX2_push_29 : decode cX2_push 29 = .ok (.return_, 1) := op_177 nb_dX2_push_21.2.2.2.2.1
def fX2_push (N : Nat) (x1 : Int32) (v_stacked : Int32) (v_stack : List Int32) : Option (Int32 × List Int32) :=
    if (121 : Int32) ≤ v_stacked then
    (some (v_stacked, v_stack))
    else (mm_ck (mm_inb v_stacked v_stack.length) (mm_nm (mm_is v_stack v_stacked x1) (fun (l_3 : List Int32) =>
    mm_nm ((v_stacked + (1 : Int32))) (fun (y_4 : Int32) =>
    some (y_4, l_3)))))

set_option maxHeartbeats 4000000 in
set_option maxRecDepth 100000 in
theorem ctX2_push {l : Launch} {D : va_G} {cI cL cS cH : ClassId} {a : Nat → Nat} {x1 : Int32} {v_size : Int32} {v_stepCount : Int32} {v_draftCount : Int32} {v_place : Int32} {v_fault : Int32} {v_stacked : Int32} {v_tape : List Int32} {v_steps : List Int32} {v_draft : List Int32} {v_stack : List Int32} {w_stacked : Int32} {w_stack : List Int32} {N d : Nat} (hd : 1 ≤ d) (hf : fX2_push N x1 v_stacked v_stack = some (w_stacked, w_stack)) : mm_Ct l yX2_push cX2_push 2 none d D (mm_T cI cL cS cH) [.ref (a 0), .int x1] (wd_X2 cI cL cS cH a v_size v_stepCount v_draftCount v_place v_fault v_stacked v_tape v_steps v_draft v_stack) (wd_X2 cI cL cS cH a v_size v_stepCount v_draftCount v_place v_fault w_stacked v_tape v_steps v_draft w_stack) none := by
  refine mm_of (by decide) (Nat.le_of_ble_eq_true rfl) ?_
  intro p e s m args below meth c A H locs ls C0 hP hD hA hS hl
  have C0 : mm_Cx p s m args meth c RX2 cX2_push 2 none D (mm_T cI cL cS cH) A := C0
  obtain ⟨hx, hb, hml, hown, hts, hr, hlocks, hK, hSt⟩ := id C0
  have hl : lv_has ls 2 [(0, .ref (a 0)), (1, .int x1)] := hl
  unfold fX2_push at hf
  refine lv_aload_n hx hb dX2_push_0 rfl (lv_at hl 0 rfl) ?_
  refine mm_get C0 hP iw_X2 0 rfl rfl 9 (by decide) fl_X2_91 rfl dX2_push_1 ?_
  refine lv_bipush (v := 121) hx hb dX2_push_4 (by decide) ?_
  refine lv_icmp_ge (tgt := 29) hx hb dX2_push_6 (by decide) (fun c_1 => ?_) (fun c_1 => ?_)
  · have hf := mm_ip hf c_1
    apply mm_sub2 hf
    exact mm_vret C0 hP hD hS dX2_push_29
  · have hf := mm_in hf c_1
    refine lv_aload_n hx hb dX2_push_9 rfl (lv_at hl 0 rfl) ?_
    refine mm_get C0 hP iw_X2 0 rfl rfl 8 (by decide) fl_X2_21 rfl dX2_push_10 ?_
    refine lv_aload_n hx hb dX2_push_13 rfl (lv_at hl 0 rfl) ?_
    refine mm_get C0 hP iw_X2 0 rfl rfl 9 (by decide) fl_X2_91 rfl dX2_push_14 ?_
    refine lv_iload_n hx hb dX2_push_17 rfl (lv_at hl 1 rfl) ?_
    obtain ⟨h_2, hf⟩ := mm_cks hf
    refine mm_iast C0 hP hD hS 4 rfl h_2 dX2_push_18 (w2 := (wd_X2 cI cL cS cH a v_size v_stepCount v_draftCount v_place v_fault v_stacked v_tape v_steps v_draft (mm_is v_stack v_stacked x1))) rfl (fun H locs hP hD hS => ?_)
    generalize el_3 : (mm_is v_stack v_stacked x1) = l_3 at hP hD
    have hf := mm_nms hf el_3.symm
    refine lv_aload_n hx hb dX2_push_19 rfl (lv_at hl 0 rfl) ?_
    refine lv_dup hx hb dX2_push_20 rfl ?_
    refine mm_get C0 hP iw_X2 0 rfl rfl 9 (by decide) fl_X2_91 rfl dX2_push_21 ?_
    refine lv_iconst (v := 1) hx hb dX2_push_24 (by decide) ?_
    refine lv_iadd hx hb dX2_push_25 ?_
    refine lv_topi (fun y_4 ey_4 => ?_)
    have hf := mm_nms hf ey_4
    refine mm_put C0 hP hD hS iw_X2 tyX2 tyX2_ok nmX2 0 rfl rfl 9 (by decide) fl_X2_91 rfl rfl rfl (Nat.le_of_ble_eq_true rfl) dX2_push_26 (w2 := (wd_X2 cI cL cS cH a v_size v_stepCount v_draftCount v_place v_fault y_4 v_tape v_steps v_draft l_3)) rfl (fun H locs hP hD hS => ?_)
    apply mm_sub2 hf
    exact mm_vret C0 hP hD hS dX2_push_29

theorem nb_dX2_worth_0 : bls_w cX2_worth [(0, [42]), (1, [180, 0, 53]), (4, [154, 0, 9]), (7, [4]), (8, [5]), (9, [29]), (10, [104]), (11, [96]), (12, [172]), (13, [42]), (14, [3]), (15, [181, 0, 91])] := bls_of (by decide +kernel)
theorem dX2_worth_0 : decode cX2_worth 0 = .ok (.aload_n 0, 1) := op_42 nb_dX2_worth_0.1
set_option maxRecDepth 100000 in
theorem dX2_worth_1 : decode cX2_worth 1 = .ok (.getfield 53, 3) := (op_180 nb_dX2_worth_0.2.1).trans rfl
set_option maxRecDepth 100000 in
theorem dX2_worth_4 : decode cX2_worth 4 = .ok (.ifCond .ne 9, 3) := (op_154 nb_dX2_worth_0.2.2.1).trans rfl
theorem dX2_worth_7 : decode cX2_worth 7 = .ok (.iconst 1, 1) := op_4 nb_dX2_worth_0.2.2.2.1
theorem dX2_worth_8 : decode cX2_worth 8 = .ok (.iconst 2, 1) := op_5 nb_dX2_worth_0.2.2.2.2.1
theorem dX2_worth_9 : decode cX2_worth 9 = .ok (.iload_n 3, 1) := op_29 nb_dX2_worth_0.2.2.2.2.2.1
theorem dX2_worth_10 : decode cX2_worth 10 = .ok (.imul, 1) := op_104 nb_dX2_worth_0.2.2.2.2.2.2.1
theorem dX2_worth_11 : decode cX2_worth 11 = .ok (.iadd, 1) := op_96 nb_dX2_worth_0.2.2.2.2.2.2.2.1
theorem dX2_worth_12 : decode cX2_worth 12 = .ok (.ireturn, 1) := op_172 nb_dX2_worth_0.2.2.2.2.2.2.2.2.1
theorem dX2_worth_13 : decode cX2_worth 13 = .ok (.aload_n 0, 1) := op_42 nb_dX2_worth_0.2.2.2.2.2.2.2.2.2.1
theorem dX2_worth_14 : decode cX2_worth 14 = .ok (.iconst 0, 1) := op_3 nb_dX2_worth_0.2.2.2.2.2.2.2.2.2.2.1
set_option maxRecDepth 100000 in
theorem dX2_worth_15 : decode cX2_worth 15 = .ok (.putfield 91, 3) := (op_181 nb_dX2_worth_0.2.2.2.2.2.2.2.2.2.2.2.1).trans rfl
theorem nb_dX2_worth_18 : bls_w cX2_worth [(18, [4]), (19, [54, 7]), (21, [3]), (22, [54, 8]), (24, [21, 8]), (26, [42]), (27, [180, 0, 53]), (30, [162, 1, 37]), (33, [42]), (34, [180, 0, 15]), (37, [21, 8]), (39, [46])] := bls_of (by decide +kernel)
theorem dX2_worth_18 : decode cX2_worth 18 = .ok (.iconst 1, 1) := op_4 nb_dX2_worth_18.1
set_option maxRecDepth 100000 in
theorem dX2_worth_19 : decode cX2_worth 19 = .ok (.istore 7, 2) := (op_54 nb_dX2_worth_18.2.1).trans rfl
theorem dX2_worth_21 : decode cX2_worth 21 = .ok (.iconst 0, 1) := op_3 nb_dX2_worth_18.2.2.1
set_option maxRecDepth 100000 in
theorem dX2_worth_22 : decode cX2_worth 22 = .ok (.istore 8, 2) := (op_54 nb_dX2_worth_18.2.2.2.1).trans rfl
set_option maxRecDepth 100000 in
theorem dX2_worth_24 : decode cX2_worth 24 = .ok (.iload 8, 2) := (op_21 nb_dX2_worth_18.2.2.2.2.1).trans rfl
theorem dX2_worth_26 : decode cX2_worth 26 = .ok (.aload_n 0, 1) := op_42 nb_dX2_worth_18.2.2.2.2.2.1
set_option maxRecDepth 100000 in
theorem dX2_worth_27 : decode cX2_worth 27 = .ok (.getfield 53, 3) := (op_180 nb_dX2_worth_18.2.2.2.2.2.2.1).trans rfl
set_option maxRecDepth 100000 in
theorem dX2_worth_30 : decode cX2_worth 30 = .ok (.if_icmp .ge 293, 3) := (op_162 nb_dX2_worth_18.2.2.2.2.2.2.2.1).trans rfl
theorem dX2_worth_33 : decode cX2_worth 33 = .ok (.aload_n 0, 1) := op_42 nb_dX2_worth_18.2.2.2.2.2.2.2.2.1
set_option maxRecDepth 100000 in
theorem dX2_worth_34 : decode cX2_worth 34 = .ok (.getfield 15, 3) := (op_180 nb_dX2_worth_18.2.2.2.2.2.2.2.2.2.1).trans rfl
set_option maxRecDepth 100000 in
theorem dX2_worth_37 : decode cX2_worth 37 = .ok (.iload 8, 2) := (op_21 nb_dX2_worth_18.2.2.2.2.2.2.2.2.2.2.1).trans rfl
theorem dX2_worth_39 : decode cX2_worth 39 = .ok (.iaload, 1) := op_46 nb_dX2_worth_18.2.2.2.2.2.2.2.2.2.2.2.1
theorem dX2_worth_40 : decode cX2_worth 40 = .ok (.lookupswitch 220 #[(33, 189), (59, 92), (63, 121), (98, 180), (102, 171), (107, 162), (110, 138), (114, 154), (119, 146), (126, 208)], 92) := by decide +kernel
theorem nb_dX2_worth_132 : bls_w cX2_worth [(132, [42]), (133, [182, 0, 94]), (136, [54, 9]), (138, [21, 7]), (140, [153, 0, 15]), (143, [3]), (144, [16, 9]), (146, [21, 9]), (148, [184, 0, 97]), (151, [184, 0, 103]), (154, [172]), (155, [4])] := bls_of (by decide +kernel)
theorem dX2_worth_132 : decode cX2_worth 132 = .ok (.aload_n 0, 1) := op_42 nb_dX2_worth_132.1
set_option maxRecDepth 100000 in
theorem dX2_worth_133 : decode cX2_worth 133 = .ok (.invokevirtual 94, 3) := (op_182 nb_dX2_worth_132.2.1).trans rfl
set_option maxRecDepth 100000 in
theorem dX2_worth_136 : decode cX2_worth 136 = .ok (.istore 9, 2) := (op_54 nb_dX2_worth_132.2.2.1).trans rfl
set_option maxRecDepth 100000 in
theorem dX2_worth_138 : decode cX2_worth 138 = .ok (.iload 7, 2) := (op_21 nb_dX2_worth_132.2.2.2.1).trans rfl
set_option maxRecDepth 100000 in
theorem dX2_worth_140 : decode cX2_worth 140 = .ok (.ifCond .eq 15, 3) := (op_153 nb_dX2_worth_132.2.2.2.2.1).trans rfl
theorem dX2_worth_143 : decode cX2_worth 143 = .ok (.iconst 0, 1) := op_3 nb_dX2_worth_132.2.2.2.2.2.1
set_option maxRecDepth 100000 in
theorem dX2_worth_144 : decode cX2_worth 144 = .ok (.bipush 9, 2) := (op_16 nb_dX2_worth_132.2.2.2.2.2.2.1).trans rfl
set_option maxRecDepth 100000 in
theorem dX2_worth_146 : decode cX2_worth 146 = .ok (.iload 9, 2) := (op_21 nb_dX2_worth_132.2.2.2.2.2.2.2.1).trans rfl
set_option maxRecDepth 100000 in
theorem dX2_worth_148 : decode cX2_worth 148 = .ok (.invokestatic 97, 3) := (op_184 nb_dX2_worth_132.2.2.2.2.2.2.2.2.1).trans rfl
set_option maxRecDepth 100000 in
theorem dX2_worth_151 : decode cX2_worth 151 = .ok (.invokestatic 103, 3) := (op_184 nb_dX2_worth_132.2.2.2.2.2.2.2.2.2.1).trans rfl
theorem dX2_worth_154 : decode cX2_worth 154 = .ok (.ireturn, 1) := op_172 nb_dX2_worth_132.2.2.2.2.2.2.2.2.2.2.1
theorem dX2_worth_155 : decode cX2_worth 155 = .ok (.iconst 1, 1) := op_4 nb_dX2_worth_132.2.2.2.2.2.2.2.2.2.2.2.1
theorem nb_dX2_worth_156 : bls_w cX2_worth [(156, [54, 7]), (158, [167, 0, 159]), (161, [42]), (162, [182, 0, 94]), (165, [153, 0, 7]), (168, [4]), (169, [167, 0, 4]), (172, [3]), (173, [54, 7]), (175, [167, 0, 142]), (178, [42]), (179, [27])] := bls_of (by decide +kernel)
set_option maxRecDepth 100000 in
theorem dX2_worth_156 : decode cX2_worth 156 = .ok (.istore 7, 2) := (op_54 nb_dX2_worth_156.1).trans rfl
set_option maxRecDepth 100000 in
theorem dX2_worth_158 : decode cX2_worth 158 = .ok (.goto 159, 3) := (op_167 nb_dX2_worth_156.2.1).trans rfl
theorem dX2_worth_161 : decode cX2_worth 161 = .ok (.aload_n 0, 1) := op_42 nb_dX2_worth_156.2.2.1
set_option maxRecDepth 100000 in
theorem dX2_worth_162 : decode cX2_worth 162 = .ok (.invokevirtual 94, 3) := (op_182 nb_dX2_worth_156.2.2.2.1).trans rfl
set_option maxRecDepth 100000 in
theorem dX2_worth_165 : decode cX2_worth 165 = .ok (.ifCond .eq 7, 3) := (op_153 nb_dX2_worth_156.2.2.2.2.1).trans rfl
theorem dX2_worth_168 : decode cX2_worth 168 = .ok (.iconst 1, 1) := op_4 nb_dX2_worth_156.2.2.2.2.2.1
set_option maxRecDepth 100000 in
theorem dX2_worth_169 : decode cX2_worth 169 = .ok (.goto 4, 3) := (op_167 nb_dX2_worth_156.2.2.2.2.2.2.1).trans rfl
theorem dX2_worth_172 : decode cX2_worth 172 = .ok (.iconst 0, 1) := op_3 nb_dX2_worth_156.2.2.2.2.2.2.2.1
set_option maxRecDepth 100000 in
theorem dX2_worth_173 : decode cX2_worth 173 = .ok (.istore 7, 2) := (op_54 nb_dX2_worth_156.2.2.2.2.2.2.2.2.1).trans rfl
set_option maxRecDepth 100000 in
theorem dX2_worth_175 : decode cX2_worth 175 = .ok (.goto 142, 3) := (op_167 nb_dX2_worth_156.2.2.2.2.2.2.2.2.2.1).trans rfl
theorem dX2_worth_178 : decode cX2_worth 178 = .ok (.aload_n 0, 1) := op_42 nb_dX2_worth_156.2.2.2.2.2.2.2.2.2.2.1
theorem dX2_worth_179 : decode cX2_worth 179 = .ok (.iload_n 1, 1) := op_27 nb_dX2_worth_156.2.2.2.2.2.2.2.2.2.2.2.1
theorem nb_dX2_worth_180 : bls_w cX2_worth [(180, [182, 0, 106]), (183, [167, 0, 134]), (186, [42]), (187, [28]), (188, [182, 0, 106]), (191, [167, 0, 126]), (194, [42]), (195, [29]), (196, [182, 0, 106]), (199, [167, 0, 118]), (202, [42]), (203, [21, 4])] := bls_of (by decide +kernel)
set_option maxRecDepth 100000 in
theorem dX2_worth_180 : decode cX2_worth 180 = .ok (.invokevirtual 106, 3) := (op_182 nb_dX2_worth_180.1).trans rfl
set_option maxRecDepth 100000 in
theorem dX2_worth_183 : decode cX2_worth 183 = .ok (.goto 134, 3) := (op_167 nb_dX2_worth_180.2.1).trans rfl
theorem dX2_worth_186 : decode cX2_worth 186 = .ok (.aload_n 0, 1) := op_42 nb_dX2_worth_180.2.2.1
theorem dX2_worth_187 : decode cX2_worth 187 = .ok (.iload_n 2, 1) := op_28 nb_dX2_worth_180.2.2.2.1
set_option maxRecDepth 100000 in
theorem dX2_worth_188 : decode cX2_worth 188 = .ok (.invokevirtual 106, 3) := (op_182 nb_dX2_worth_180.2.2.2.2.1).trans rfl
set_option maxRecDepth 100000 in
theorem dX2_worth_191 : decode cX2_worth 191 = .ok (.goto 126, 3) := (op_167 nb_dX2_worth_180.2.2.2.2.2.1).trans rfl
theorem dX2_worth_194 : decode cX2_worth 194 = .ok (.aload_n 0, 1) := op_42 nb_dX2_worth_180.2.2.2.2.2.2.1
theorem dX2_worth_195 : decode cX2_worth 195 = .ok (.iload_n 3, 1) := op_29 nb_dX2_worth_180.2.2.2.2.2.2.2.1
set_option maxRecDepth 100000 in
theorem dX2_worth_196 : decode cX2_worth 196 = .ok (.invokevirtual 106, 3) := (op_182 nb_dX2_worth_180.2.2.2.2.2.2.2.2.1).trans rfl
set_option maxRecDepth 100000 in
theorem dX2_worth_199 : decode cX2_worth 199 = .ok (.goto 118, 3) := (op_167 nb_dX2_worth_180.2.2.2.2.2.2.2.2.2.1).trans rfl
theorem dX2_worth_202 : decode cX2_worth 202 = .ok (.aload_n 0, 1) := op_42 nb_dX2_worth_180.2.2.2.2.2.2.2.2.2.2.1
set_option maxRecDepth 100000 in
theorem dX2_worth_203 : decode cX2_worth 203 = .ok (.iload 4, 2) := (op_21 nb_dX2_worth_180.2.2.2.2.2.2.2.2.2.2.2.1).trans rfl
theorem nb_dX2_worth_205 : bls_w cX2_worth [(205, [182, 0, 106]), (208, [167, 0, 109]), (211, [42]), (212, [21, 5]), (214, [182, 0, 106]), (217, [167, 0, 100]), (220, [42]), (221, [21, 6]), (223, [182, 0, 106]), (226, [167, 0, 91]), (229, [42]), (230, [42])] := bls_of (by decide +kernel)
set_option maxRecDepth 100000 in
theorem dX2_worth_205 : decode cX2_worth 205 = .ok (.invokevirtual 106, 3) := (op_182 nb_dX2_worth_205.1).trans rfl
set_option maxRecDepth 100000 in
theorem dX2_worth_208 : decode cX2_worth 208 = .ok (.goto 109, 3) := (op_167 nb_dX2_worth_205.2.1).trans rfl
theorem dX2_worth_211 : decode cX2_worth 211 = .ok (.aload_n 0, 1) := op_42 nb_dX2_worth_205.2.2.1
set_option maxRecDepth 100000 in
theorem dX2_worth_212 : decode cX2_worth 212 = .ok (.iload 5, 2) := (op_21 nb_dX2_worth_205.2.2.2.1).trans rfl
set_option maxRecDepth 100000 in
theorem dX2_worth_214 : decode cX2_worth 214 = .ok (.invokevirtual 106, 3) := (op_182 nb_dX2_worth_205.2.2.2.2.1).trans rfl
set_option maxRecDepth 100000 in
theorem dX2_worth_217 : decode cX2_worth 217 = .ok (.goto 100, 3) := (op_167 nb_dX2_worth_205.2.2.2.2.2.1).trans rfl
theorem dX2_worth_220 : decode cX2_worth 220 = .ok (.aload_n 0, 1) := op_42 nb_dX2_worth_205.2.2.2.2.2.2.1
set_option maxRecDepth 100000 in
theorem dX2_worth_221 : decode cX2_worth 221 = .ok (.iload 6, 2) := (op_21 nb_dX2_worth_205.2.2.2.2.2.2.2.1).trans rfl
set_option maxRecDepth 100000 in
theorem dX2_worth_223 : decode cX2_worth 223 = .ok (.invokevirtual 106, 3) := (op_182 nb_dX2_worth_205.2.2.2.2.2.2.2.2.1).trans rfl
set_option maxRecDepth 100000 in
theorem dX2_worth_226 : decode cX2_worth 226 = .ok (.goto 91, 3) := (op_167 nb_dX2_worth_205.2.2.2.2.2.2.2.2.2.1).trans rfl
theorem dX2_worth_229 : decode cX2_worth 229 = .ok (.aload_n 0, 1) := op_42 nb_dX2_worth_205.2.2.2.2.2.2.2.2.2.2.1
theorem dX2_worth_230 : decode cX2_worth 230 = .ok (.aload_n 0, 1) := op_42 nb_dX2_worth_205.2.2.2.2.2.2.2.2.2.2.2.1
theorem nb_dX2_worth_231 : bls_w cX2_worth [(231, [182, 0, 94]), (234, [154, 0, 7]), (237, [4]), (238, [167, 0, 4]), (241, [3]), (242, [182, 0, 106]), (245, [167, 0, 72]), (248, [42]), (249, [42]), (250, [182, 0, 94]), (253, [116]), (254, [182, 0, 106])] := bls_of (by decide +kernel)
set_option maxRecDepth 100000 in
theorem dX2_worth_231 : decode cX2_worth 231 = .ok (.invokevirtual 94, 3) := (op_182 nb_dX2_worth_231.1).trans rfl
set_option maxRecDepth 100000 in
theorem dX2_worth_234 : decode cX2_worth 234 = .ok (.ifCond .ne 7, 3) := (op_154 nb_dX2_worth_231.2.1).trans rfl
theorem dX2_worth_237 : decode cX2_worth 237 = .ok (.iconst 1, 1) := op_4 nb_dX2_worth_231.2.2.1
set_option maxRecDepth 100000 in
theorem dX2_worth_238 : decode cX2_worth 238 = .ok (.goto 4, 3) := (op_167 nb_dX2_worth_231.2.2.2.1).trans rfl
theorem dX2_worth_241 : decode cX2_worth 241 = .ok (.iconst 0, 1) := op_3 nb_dX2_worth_231.2.2.2.2.1
set_option maxRecDepth 100000 in
theorem dX2_worth_242 : decode cX2_worth 242 = .ok (.invokevirtual 106, 3) := (op_182 nb_dX2_worth_231.2.2.2.2.2.1).trans rfl
set_option maxRecDepth 100000 in
theorem dX2_worth_245 : decode cX2_worth 245 = .ok (.goto 72, 3) := (op_167 nb_dX2_worth_231.2.2.2.2.2.2.1).trans rfl
theorem dX2_worth_248 : decode cX2_worth 248 = .ok (.aload_n 0, 1) := op_42 nb_dX2_worth_231.2.2.2.2.2.2.2.1
theorem dX2_worth_249 : decode cX2_worth 249 = .ok (.aload_n 0, 1) := op_42 nb_dX2_worth_231.2.2.2.2.2.2.2.2.1
set_option maxRecDepth 100000 in
theorem dX2_worth_250 : decode cX2_worth 250 = .ok (.invokevirtual 94, 3) := (op_182 nb_dX2_worth_231.2.2.2.2.2.2.2.2.2.1).trans rfl
theorem dX2_worth_253 : decode cX2_worth 253 = .ok (.ineg, 1) := op_116 nb_dX2_worth_231.2.2.2.2.2.2.2.2.2.2.1
set_option maxRecDepth 100000 in
theorem dX2_worth_254 : decode cX2_worth 254 = .ok (.invokevirtual 106, 3) := (op_182 nb_dX2_worth_231.2.2.2.2.2.2.2.2.2.2.2.1).trans rfl
theorem nb_dX2_worth_257 : bls_w cX2_worth [(257, [167, 0, 60]), (260, [42]), (261, [180, 0, 15]), (264, [21, 8]), (266, [46]), (267, [17, 3, 232]), (270, [161, 0, 21]), (273, [42]), (274, [42]), (275, [180, 0, 15]), (278, [21, 8]), (280, [46])] := bls_of (by decide +kernel)
set_option maxRecDepth 100000 in
theorem dX2_worth_257 : decode cX2_worth 257 = .ok (.goto 60, 3) := (op_167 nb_dX2_worth_257.1).trans rfl
theorem dX2_worth_260 : decode cX2_worth 260 = .ok (.aload_n 0, 1) := op_42 nb_dX2_worth_257.2.1
set_option maxRecDepth 100000 in
theorem dX2_worth_261 : decode cX2_worth 261 = .ok (.getfield 15, 3) := (op_180 nb_dX2_worth_257.2.2.1).trans rfl
set_option maxRecDepth 100000 in
theorem dX2_worth_264 : decode cX2_worth 264 = .ok (.iload 8, 2) := (op_21 nb_dX2_worth_257.2.2.2.1).trans rfl
theorem dX2_worth_266 : decode cX2_worth 266 = .ok (.iaload, 1) := op_46 nb_dX2_worth_257.2.2.2.2.1
set_option maxRecDepth 100000 in
theorem dX2_worth_267 : decode cX2_worth 267 = .ok (.sipush 1000, 3) := (op_17 nb_dX2_worth_257.2.2.2.2.2.1).trans rfl
set_option maxRecDepth 100000 in
theorem dX2_worth_270 : decode cX2_worth 270 = .ok (.if_icmp .lt 21, 3) := (op_161 nb_dX2_worth_257.2.2.2.2.2.2.1).trans rfl
theorem dX2_worth_273 : decode cX2_worth 273 = .ok (.aload_n 0, 1) := op_42 nb_dX2_worth_257.2.2.2.2.2.2.2.1
theorem dX2_worth_274 : decode cX2_worth 274 = .ok (.aload_n 0, 1) := op_42 nb_dX2_worth_257.2.2.2.2.2.2.2.2.1
set_option maxRecDepth 100000 in
theorem dX2_worth_275 : decode cX2_worth 275 = .ok (.getfield 15, 3) := (op_180 nb_dX2_worth_257.2.2.2.2.2.2.2.2.2.1).trans rfl
set_option maxRecDepth 100000 in
theorem dX2_worth_278 : decode cX2_worth 278 = .ok (.iload 8, 2) := (op_21 nb_dX2_worth_257.2.2.2.2.2.2.2.2.2.2.1).trans rfl
theorem dX2_worth_280 : decode cX2_worth 280 = .ok (.iaload, 1) := op_46 nb_dX2_worth_257.2.2.2.2.2.2.2.2.2.2.2.1
theorem nb_dX2_worth_281 : bls_w cX2_worth [(281, [17, 3, 232]), (284, [100]), (285, [182, 0, 106]), (288, [167, 0, 29]), (291, [42]), (292, [182, 0, 94]), (295, [54, 10]), (297, [42]), (298, [42]), (299, [180, 0, 15]), (302, [21, 8]), (304, [46])] := bls_of (by decide +kernel)
set_option maxRecDepth 100000 in
theorem dX2_worth_281 : decode cX2_worth 281 = .ok (.sipush 1000, 3) := (op_17 nb_dX2_worth_281.1).trans rfl
theorem dX2_worth_284 : decode cX2_worth 284 = .ok (.isub, 1) := op_100 nb_dX2_worth_281.2.1
set_option maxRecDepth 100000 in
theorem dX2_worth_285 : decode cX2_worth 285 = .ok (.invokevirtual 106, 3) := (op_182 nb_dX2_worth_281.2.2.1).trans rfl
set_option maxRecDepth 100000 in
theorem dX2_worth_288 : decode cX2_worth 288 = .ok (.goto 29, 3) := (op_167 nb_dX2_worth_281.2.2.2.1).trans rfl
theorem dX2_worth_291 : decode cX2_worth 291 = .ok (.aload_n 0, 1) := op_42 nb_dX2_worth_281.2.2.2.2.1
set_option maxRecDepth 100000 in
theorem dX2_worth_292 : decode cX2_worth 292 = .ok (.invokevirtual 94, 3) := (op_182 nb_dX2_worth_281.2.2.2.2.2.1).trans rfl
set_option maxRecDepth 100000 in
theorem dX2_worth_295 : decode cX2_worth 295 = .ok (.istore 10, 2) := (op_54 nb_dX2_worth_281.2.2.2.2.2.2.1).trans rfl
theorem dX2_worth_297 : decode cX2_worth 297 = .ok (.aload_n 0, 1) := op_42 nb_dX2_worth_281.2.2.2.2.2.2.2.1
theorem dX2_worth_298 : decode cX2_worth 298 = .ok (.aload_n 0, 1) := op_42 nb_dX2_worth_281.2.2.2.2.2.2.2.2.1
set_option maxRecDepth 100000 in
theorem dX2_worth_299 : decode cX2_worth 299 = .ok (.getfield 15, 3) := (op_180 nb_dX2_worth_281.2.2.2.2.2.2.2.2.2.1).trans rfl
set_option maxRecDepth 100000 in
theorem dX2_worth_302 : decode cX2_worth 302 = .ok (.iload 8, 2) := (op_21 nb_dX2_worth_281.2.2.2.2.2.2.2.2.2.2.1).trans rfl
theorem dX2_worth_304 : decode cX2_worth 304 = .ok (.iaload, 1) := op_46 nb_dX2_worth_281.2.2.2.2.2.2.2.2.2.2.2.1
theorem nb_dX2_worth_305 : bls_w cX2_worth [(305, [42]), (306, [182, 0, 94]), (309, [21, 10]), (311, [184, 0, 109]), (314, [182, 0, 106]), (317, [132, 8, 1]), (320, [167, 254, 216]), (323, [3]), (324, [172])] := bls_of (by decide +kernel)
theorem dX2_worth_305 : decode cX2_worth 305 = .ok (.aload_n 0, 1) := op_42 nb_dX2_worth_305.1
set_option maxRecDepth 100000 in
theorem dX2_worth_306 : decode cX2_worth 306 = .ok (.invokevirtual 94, 3) := (op_182 nb_dX2_worth_305.2.1).trans rfl
set_option maxRecDepth 100000 in
theorem dX2_worth_309 : decode cX2_worth 309 = .ok (.iload 10, 2) := (op_21 nb_dX2_worth_305.2.2.1).trans rfl
set_option maxRecDepth 100000 in
theorem dX2_worth_311 : decode cX2_worth 311 = .ok (.invokestatic 109, 3) := (op_184 nb_dX2_worth_305.2.2.2.1).trans rfl
set_option maxRecDepth 100000 in
theorem dX2_worth_314 : decode cX2_worth 314 = .ok (.invokevirtual 106, 3) := (op_182 nb_dX2_worth_305.2.2.2.2.1).trans rfl
set_option maxRecDepth 100000 in
theorem dX2_worth_317 : decode cX2_worth 317 = .ok (.iinc 8 1, 3) := (op_132 nb_dX2_worth_305.2.2.2.2.2.1).trans rfl
set_option maxRecDepth 100000 in
theorem dX2_worth_320 : decode cX2_worth 320 = .ok (.goto (-296), 3) := (op_167 nb_dX2_worth_305.2.2.2.2.2.2.1).trans rfl
theorem dX2_worth_323 : decode cX2_worth 323 = .ok (.iconst 0, 1) := op_3 nb_dX2_worth_305.2.2.2.2.2.2.2.1
theorem dX2_worth_324 : decode cX2_worth 324 = .ok (.ireturn, 1) := op_172 nb_dX2_worth_305.2.2.2.2.2.2.2.2.1
def fX2_worth_317 (N : Nat) (k_24 : Int32 → Int32 → Int32 → Int32 → Int32 → Int32 → Int32 → Int32 → Int32 → Int32 → List Int32 → List Int32 → Option (Int32 × Int32 × List Int32)) (x1 : Int32) (x2 : Int32) (x3 : Int32) (x4 : Int32) (x5 : Int32) (x6 : Int32) (x7 : Int32) (x8 : Int32) (v_stepCount : Int32) (v_stacked : Int32) (v_steps : List Int32) (v_stack : List Int32) : Option (Int32 × Int32 × List Int32) :=
    mm_nm (x8 + (1 : Int32)) (fun (y_69 : Int32) =>
    k_24 x1 x2 x3 x4 x5 x6 x7 y_69 v_stepCount v_stacked v_steps v_stack)

set_option maxHeartbeats 4000000 in
set_option maxRecDepth 100000 in
theorem tX2_worth_317 {p : Program} {l : Launch} {e : Env} {s : State} {m : MethodId} {args : Array Value} {below : List Frame} {meth : Method} {c : Code} {D : va_G} {cI cL cS cH : ClassId} {A : Nat → Prop} {d : Nat} {a : Nat → Nat} (hd : 2 ≤ d) (C0 : mm_Cx p s m args meth c RX2 cX2_worth 11 (some .int) D (mm_T cI cL cS cH) A) (hA : ∀ q, s.heap.size ≤ q → A q) {v_size : Int32} {v_draftCount : Int32} {v_place : Int32} {v_fault : Int32} {v_tape : List Int32} {v_draft : List Int32} {r : Int32} {w_stacked : Int32} {w_stack : List Int32} (N : Nat) {k_24 : Int32 → Int32 → Int32 → Int32 → Int32 → Int32 → Int32 → Int32 → Int32 → Int32 → List Int32 → List Int32 → Option (Int32 × Int32 × List Int32)} (hk_24 : ∀ (x1 : Int32) (x2 : Int32) (x3 : Int32) (x4 : Int32) (x5 : Int32) (x6 : Int32) (x7 : Int32) (x8 : Int32) (v_stepCount : Int32) (v_stacked : Int32) (v_steps : List Int32) (v_stack : List Int32) (H : Heap) (locs : List Loc) (ls : Array Slot), k_24 x1 x2 x3 x4 x5 x6 x7 x8 v_stepCount v_stacked v_steps v_stack = some (r, w_stacked, w_stack) → va_P D mm_cl (wd_X2 cI cL cS cH a v_size v_stepCount v_draftCount v_place v_fault v_stacked v_tape v_steps v_draft v_stack) H → va_D A (wd_X2 cI cL cS cH a v_size v_stepCount v_draftCount v_place v_fault v_stacked v_tape v_steps v_draft v_stack) → va_S A s.heap H locs → lv_has ls 11 [(0, .ref (a 0)), (1, .int x1), (2, .int x2), (3, .int x3), (4, .int x4), (5, .int x5), (6, .int x6), (7, .int x7), (8, .int x8)] → W p l e (mm_rr d) s m args below meth c H locs 0 0 (mm_Z below D A (wd_X2 cI cL cS cH a v_size v_stepCount v_draftCount v_place v_fault w_stacked v_tape v_steps v_draft w_stack) (some (.int r)) args s) (F0 m 24 ls [])) : ∀ (x1 : Int32) (x2 : Int32) (x3 : Int32) (x4 : Int32) (x5 : Int32) (x6 : Int32) (x7 : Int32) (x8 : Int32) (v_stepCount : Int32) (v_stacked : Int32) (v_steps : List Int32) (v_stack : List Int32) (H : Heap) (locs : List Loc) (ls : Array Slot), fX2_worth_317 N k_24 x1 x2 x3 x4 x5 x6 x7 x8 v_stepCount v_stacked v_steps v_stack = some (r, w_stacked, w_stack) → va_P D mm_cl (wd_X2 cI cL cS cH a v_size v_stepCount v_draftCount v_place v_fault v_stacked v_tape v_steps v_draft v_stack) H → va_D A (wd_X2 cI cL cS cH a v_size v_stepCount v_draftCount v_place v_fault v_stacked v_tape v_steps v_draft v_stack) → va_S A s.heap H locs → lv_has ls 11 [(0, .ref (a 0)), (1, .int x1), (2, .int x2), (3, .int x3), (4, .int x4), (5, .int x5), (6, .int x6), (7, .int x7), (8, .int x8)] → W p l e (mm_rr d) s m args below meth c H locs 0 0 (mm_Z below D A (wd_X2 cI cL cS cH a v_size v_stepCount v_draftCount v_place v_fault w_stacked v_tape v_steps v_draft w_stack) (some (.int r)) args s) (F0 m 317 ls []) := by
  obtain ⟨hx, hb, hml, hown, hts, hr, hlocks, hK, hSt⟩ := id C0
  intro x1 x2 x3 x4 x5 x6 x7 x8 v_stepCount v_stacked v_steps v_stack H locs ls hf hP hD hS hl
  unfold fX2_worth_317 at hf
  obtain ⟨y_69, ey_69⟩ : ∃ z : Int32, z = x8 + (1 : Int32) := ⟨_, rfl⟩
  have hf := mm_nms hf ey_69
  refine lv_iinc (v := y_69) (lv' := [(8, .int y_69), (0, .ref (a 0)), (1, .int x1), (2, .int x2), (3, .int x3), (4, .int x4), (5, .int x5), (6, .int x6), (7, .int x7)]) hx hb dX2_worth_317 hl (k := 8) rfl (by rw [ey_69]; rfl) (by decide) rfl (fun ls hl => ?_)
  refine lv_goto (tgt := 24) hx hb dX2_worth_320 (by decide) ?_
  exact hk_24 _ _ _ _ _ _ _ _ _ _ _ _ H locs ls hf hP hD hS (lv_sub hl [1, 2, 3, 4, 5, 6, 7, 8, 0] rfl)

def fX2_worth_173 (N : Nat) (k_24 : Int32 → Int32 → Int32 → Int32 → Int32 → Int32 → Int32 → Int32 → Int32 → Int32 → List Int32 → List Int32 → Option (Int32 × Int32 × List Int32)) (x1 : Int32) (x2 : Int32) (x3 : Int32) (x4 : Int32) (x5 : Int32) (x6 : Int32) (x8 : Int32) (s0 : Int32) (v_stepCount : Int32) (v_stacked : Int32) (v_steps : List Int32) (v_stack : List Int32) : Option (Int32 × Int32 × List Int32) :=
    fX2_worth_317 N k_24 x1 x2 x3 x4 x5 x6 s0 x8 v_stepCount v_stacked v_steps v_stack

set_option maxHeartbeats 4000000 in
set_option maxRecDepth 100000 in
theorem tX2_worth_173 {p : Program} {l : Launch} {e : Env} {s : State} {m : MethodId} {args : Array Value} {below : List Frame} {meth : Method} {c : Code} {D : va_G} {cI cL cS cH : ClassId} {A : Nat → Prop} {d : Nat} {a : Nat → Nat} (hd : 2 ≤ d) (C0 : mm_Cx p s m args meth c RX2 cX2_worth 11 (some .int) D (mm_T cI cL cS cH) A) (hA : ∀ q, s.heap.size ≤ q → A q) {v_size : Int32} {v_draftCount : Int32} {v_place : Int32} {v_fault : Int32} {v_tape : List Int32} {v_draft : List Int32} {r : Int32} {w_stacked : Int32} {w_stack : List Int32} (N : Nat) {k_24 : Int32 → Int32 → Int32 → Int32 → Int32 → Int32 → Int32 → Int32 → Int32 → Int32 → List Int32 → List Int32 → Option (Int32 × Int32 × List Int32)} (hk_24 : ∀ (x1 : Int32) (x2 : Int32) (x3 : Int32) (x4 : Int32) (x5 : Int32) (x6 : Int32) (x7 : Int32) (x8 : Int32) (v_stepCount : Int32) (v_stacked : Int32) (v_steps : List Int32) (v_stack : List Int32) (H : Heap) (locs : List Loc) (ls : Array Slot), k_24 x1 x2 x3 x4 x5 x6 x7 x8 v_stepCount v_stacked v_steps v_stack = some (r, w_stacked, w_stack) → va_P D mm_cl (wd_X2 cI cL cS cH a v_size v_stepCount v_draftCount v_place v_fault v_stacked v_tape v_steps v_draft v_stack) H → va_D A (wd_X2 cI cL cS cH a v_size v_stepCount v_draftCount v_place v_fault v_stacked v_tape v_steps v_draft v_stack) → va_S A s.heap H locs → lv_has ls 11 [(0, .ref (a 0)), (1, .int x1), (2, .int x2), (3, .int x3), (4, .int x4), (5, .int x5), (6, .int x6), (7, .int x7), (8, .int x8)] → W p l e (mm_rr d) s m args below meth c H locs 0 0 (mm_Z below D A (wd_X2 cI cL cS cH a v_size v_stepCount v_draftCount v_place v_fault w_stacked v_tape v_steps v_draft w_stack) (some (.int r)) args s) (F0 m 24 ls [])) : ∀ (x1 : Int32) (x2 : Int32) (x3 : Int32) (x4 : Int32) (x5 : Int32) (x6 : Int32) (x8 : Int32) (s0 : Int32) (v_stepCount : Int32) (v_stacked : Int32) (v_steps : List Int32) (v_stack : List Int32) (H : Heap) (locs : List Loc) (ls : Array Slot), fX2_worth_173 N k_24 x1 x2 x3 x4 x5 x6 x8 s0 v_stepCount v_stacked v_steps v_stack = some (r, w_stacked, w_stack) → va_P D mm_cl (wd_X2 cI cL cS cH a v_size v_stepCount v_draftCount v_place v_fault v_stacked v_tape v_steps v_draft v_stack) H → va_D A (wd_X2 cI cL cS cH a v_size v_stepCount v_draftCount v_place v_fault v_stacked v_tape v_steps v_draft v_stack) → va_S A s.heap H locs → lv_has ls 11 [(0, .ref (a 0)), (1, .int x1), (2, .int x2), (3, .int x3), (4, .int x4), (5, .int x5), (6, .int x6), (8, .int x8)] → W p l e (mm_rr d) s m args below meth c H locs 0 0 (mm_Z below D A (wd_X2 cI cL cS cH a v_size v_stepCount v_draftCount v_place v_fault w_stacked v_tape v_steps v_draft w_stack) (some (.int r)) args s) (F0 m 173 ls [.int s0]) := by
  obtain ⟨hx, hb, hml, hown, hts, hr, hlocks, hK, hSt⟩ := id C0
  intro x1 x2 x3 x4 x5 x6 x8 s0 v_stepCount v_stacked v_steps v_stack H locs ls hf hP hD hS hl
  unfold fX2_worth_173 at hf
  refine lv_istore (lv' := [(7, .int s0), (0, .ref (a 0)), (1, .int x1), (2, .int x2), (3, .int x3), (4, .int x4), (5, .int x5), (6, .int x6), (8, .int x8)]) hx hb dX2_worth_173 hl (by decide) rfl (fun ls hl => ?_)
  refine lv_goto (tgt := 317) hx hb dX2_worth_175 (by decide) ?_
  exact tX2_worth_317 hd C0 hA N hk_24 _ _ _ _ _ _ _ _ _ _ _ _ H locs ls hf hP hD hS (lv_sub hl [1, 2, 3, 4, 5, 6, 7, 0, 8] rfl)

def fX2_worth_242 (N : Nat) (k_24 : Int32 → Int32 → Int32 → Int32 → Int32 → Int32 → Int32 → Int32 → Int32 → Int32 → List Int32 → List Int32 → Option (Int32 × Int32 × List Int32)) (x1 : Int32) (x2 : Int32) (x3 : Int32) (x4 : Int32) (x5 : Int32) (x6 : Int32) (x7 : Int32) (x8 : Int32) (s0 : Int32) (v_stepCount : Int32) (v_stacked : Int32) (v_steps : List Int32) (v_stack : List Int32) : Option (Int32 × Int32 × List Int32) :=
    mm_bd2 (fX2_push N s0 v_stacked v_stack) (fun (w_70 : Int32) (w_71 : List Int32) =>
    fX2_worth_317 N k_24 x1 x2 x3 x4 x5 x6 x7 x8 v_stepCount w_70 v_steps w_71)

set_option maxHeartbeats 4000000 in
set_option maxRecDepth 100000 in
theorem tX2_worth_242 {p : Program} {l : Launch} {e : Env} {s : State} {m : MethodId} {args : Array Value} {below : List Frame} {meth : Method} {c : Code} {D : va_G} {cI cL cS cH : ClassId} {A : Nat → Prop} {d : Nat} {a : Nat → Nat} (hd : 2 ≤ d) (C0 : mm_Cx p s m args meth c RX2 cX2_worth 11 (some .int) D (mm_T cI cL cS cH) A) (hA : ∀ q, s.heap.size ≤ q → A q) {v_size : Int32} {v_draftCount : Int32} {v_place : Int32} {v_fault : Int32} {v_tape : List Int32} {v_draft : List Int32} {r : Int32} {w_stacked : Int32} {w_stack : List Int32} (N : Nat) {k_24 : Int32 → Int32 → Int32 → Int32 → Int32 → Int32 → Int32 → Int32 → Int32 → Int32 → List Int32 → List Int32 → Option (Int32 × Int32 × List Int32)} (hk_24 : ∀ (x1 : Int32) (x2 : Int32) (x3 : Int32) (x4 : Int32) (x5 : Int32) (x6 : Int32) (x7 : Int32) (x8 : Int32) (v_stepCount : Int32) (v_stacked : Int32) (v_steps : List Int32) (v_stack : List Int32) (H : Heap) (locs : List Loc) (ls : Array Slot), k_24 x1 x2 x3 x4 x5 x6 x7 x8 v_stepCount v_stacked v_steps v_stack = some (r, w_stacked, w_stack) → va_P D mm_cl (wd_X2 cI cL cS cH a v_size v_stepCount v_draftCount v_place v_fault v_stacked v_tape v_steps v_draft v_stack) H → va_D A (wd_X2 cI cL cS cH a v_size v_stepCount v_draftCount v_place v_fault v_stacked v_tape v_steps v_draft v_stack) → va_S A s.heap H locs → lv_has ls 11 [(0, .ref (a 0)), (1, .int x1), (2, .int x2), (3, .int x3), (4, .int x4), (5, .int x5), (6, .int x6), (7, .int x7), (8, .int x8)] → W p l e (mm_rr d) s m args below meth c H locs 0 0 (mm_Z below D A (wd_X2 cI cL cS cH a v_size v_stepCount v_draftCount v_place v_fault w_stacked v_tape v_steps v_draft w_stack) (some (.int r)) args s) (F0 m 24 ls [])) : ∀ (x1 : Int32) (x2 : Int32) (x3 : Int32) (x4 : Int32) (x5 : Int32) (x6 : Int32) (x7 : Int32) (x8 : Int32) (s0 : Int32) (v_stepCount : Int32) (v_stacked : Int32) (v_steps : List Int32) (v_stack : List Int32) (H : Heap) (locs : List Loc) (ls : Array Slot), fX2_worth_242 N k_24 x1 x2 x3 x4 x5 x6 x7 x8 s0 v_stepCount v_stacked v_steps v_stack = some (r, w_stacked, w_stack) → va_P D mm_cl (wd_X2 cI cL cS cH a v_size v_stepCount v_draftCount v_place v_fault v_stacked v_tape v_steps v_draft v_stack) H → va_D A (wd_X2 cI cL cS cH a v_size v_stepCount v_draftCount v_place v_fault v_stacked v_tape v_steps v_draft v_stack) → va_S A s.heap H locs → lv_has ls 11 [(0, .ref (a 0)), (1, .int x1), (2, .int x2), (3, .int x3), (4, .int x4), (5, .int x5), (6, .int x6), (7, .int x7), (8, .int x8)] → W p l e (mm_rr d) s m args below meth c H locs 0 0 (mm_Z below D A (wd_X2 cI cL cS cH a v_size v_stepCount v_draftCount v_place v_fault w_stacked v_tape v_steps v_draft w_stack) (some (.int r)) args s) (F0 m 242 ls [.int s0, .ref (a 0)]) := by
  obtain ⟨hx, hb, hml, hown, hts, hr, hlocks, hK, hSt⟩ := id C0
  intro x1 x2 x3 x4 x5 x6 x7 x8 s0 v_stepCount v_stacked v_steps v_stack H locs ls hf hP hD hS hl
  unfold fX2_worth_242 at hf
  obtain ⟨w_70, w_71, hc_72, hf⟩ := mm_bd2s hf
  refine mm_callVF (q0 := 0) (ci := 2) (rest := []) C0 lk_X2_106 (ctX2_push (a := a) (d := d - 1) (by omega) hc_72) (by omega) rfl hl.1 rfl (mm_cat rfl) dX2_worth_242 hP hD hA hS rfl rfl (fun H locs hP hD hS => ?_)
  refine W.eq (g2 := F0 m 245 ls []) rfl ?_
  refine lv_goto (tgt := 317) hx hb dX2_worth_245 (by decide) ?_
  exact tX2_worth_317 hd C0 hA N hk_24 _ _ _ _ _ _ _ _ _ _ _ _ H locs ls hf hP hD hS (lv_sub hl [0, 1, 2, 3, 4, 5, 6, 7, 8] rfl)

def fX2_worth_24 (N : Nat)  : Nat → Int32 → Int32 → Int32 → Int32 → Int32 → Int32 → Int32 → Int32 → Int32 → Int32 → List Int32 → List Int32 → Option (Int32 × Int32 × List Int32)
  | 0 => fun _ _ _ _ _ _ _ _ _ _ _ _ => none
  | n + 1 => fun x1 x2 x3 x4 x5 x6 x7 x8 v_stepCount v_stacked v_steps v_stack =>
    if v_stepCount ≤ x8 then
    (some ((0 : Int32), v_stacked, v_stack))
    else (mm_ck (mm_inb x8 v_steps.length) (mm_nm ((mm_ig v_steps x8)) (fun (y_4 : Int32) =>
    if y_4 = (33 : Int32) then
    (mm_bd2 (fX2_pop N v_stacked v_stack) (fun (r_6 : Int32) (w_7 : Int32) =>
    if r_6 = 0 then
    (fX2_worth_242 N (fX2_worth_24 N n) x1 x2 x3 x4 x5 x6 x7 x8 (1 : Int32) v_stepCount w_7 v_steps v_stack)
    else (fX2_worth_242 N (fX2_worth_24 N n) x1 x2 x3 x4 x5 x6 x7 x8 (0 : Int32) v_stepCount w_7 v_steps v_stack)))
    else (if y_4 = (59 : Int32) then
    (mm_bd2 (fX2_pop N v_stacked v_stack) (fun (r_11 : Int32) (w_12 : Int32) =>
    if x7 = 0 then
    (fX2_worth_317 N (fX2_worth_24 N n) x1 x2 x3 x4 x5 x6 (1 : Int32) x8 v_stepCount w_12 v_steps v_stack)
    else (some ((mm_max (0 : Int32) (mm_min (9 : Int32) r_11)), w_12, v_stack))))
    else (if y_4 = (63 : Int32) then
    (mm_bd2 (fX2_pop N v_stacked v_stack) (fun (r_16 : Int32) (w_17 : Int32) =>
    if r_16 = 0 then
    (fX2_worth_173 N (fX2_worth_24 N n) x1 x2 x3 x4 x5 x6 x8 (0 : Int32) v_stepCount w_17 v_steps v_stack)
    else (fX2_worth_173 N (fX2_worth_24 N n) x1 x2 x3 x4 x5 x6 x8 (1 : Int32) v_stepCount w_17 v_steps v_stack)))
    else (if y_4 = (98 : Int32) then
    (mm_bd2 (fX2_push N x6 v_stacked v_stack) (fun (w_21 : Int32) (w_22 : List Int32) =>
    fX2_worth_317 N (fX2_worth_24 N n) x1 x2 x3 x4 x5 x6 x7 x8 v_stepCount w_21 v_steps w_22))
    else (if y_4 = (102 : Int32) then
    (mm_bd2 (fX2_push N x5 v_stacked v_stack) (fun (w_25 : Int32) (w_26 : List Int32) =>
    fX2_worth_317 N (fX2_worth_24 N n) x1 x2 x3 x4 x5 x6 x7 x8 v_stepCount w_25 v_steps w_26))
    else (if y_4 = (107 : Int32) then
    (mm_bd2 (fX2_push N x4 v_stacked v_stack) (fun (w_29 : Int32) (w_30 : List Int32) =>
    fX2_worth_317 N (fX2_worth_24 N n) x1 x2 x3 x4 x5 x6 x7 x8 v_stepCount w_29 v_steps w_30))
    else (if y_4 = (110 : Int32) then
    (mm_bd2 (fX2_push N x1 v_stacked v_stack) (fun (w_33 : Int32) (w_34 : List Int32) =>
    fX2_worth_317 N (fX2_worth_24 N n) x1 x2 x3 x4 x5 x6 x7 x8 v_stepCount w_33 v_steps w_34))
    else (if y_4 = (114 : Int32) then
    (mm_bd2 (fX2_push N x3 v_stacked v_stack) (fun (w_37 : Int32) (w_38 : List Int32) =>
    fX2_worth_317 N (fX2_worth_24 N n) x1 x2 x3 x4 x5 x6 x7 x8 v_stepCount w_37 v_steps w_38))
    else (if y_4 = (119 : Int32) then
    (mm_bd2 (fX2_push N x2 v_stacked v_stack) (fun (w_41 : Int32) (w_42 : List Int32) =>
    fX2_worth_317 N (fX2_worth_24 N n) x1 x2 x3 x4 x5 x6 x7 x8 v_stepCount w_41 v_steps w_42))
    else (if y_4 = (126 : Int32) then
    (mm_bd2 (fX2_pop N v_stacked v_stack) (fun (r_45 : Int32) (w_46 : Int32) =>
    mm_bd2 (fX2_push N (-r_45) w_46 v_stack) (fun (w_48 : Int32) (w_49 : List Int32) =>
    fX2_worth_317 N (fX2_worth_24 N n) x1 x2 x3 x4 x5 x6 x7 x8 v_stepCount w_48 v_steps w_49)))
    else (mm_ck (mm_inb x8 v_steps.length) (if (mm_ig v_steps x8) < (1000 : Int32) then
    (mm_bd2 (fX2_pop N v_stacked v_stack) (fun (r_53 : Int32) (w_54 : Int32) =>
    mm_ck (mm_inb x8 v_steps.length) (mm_bd2 (fX2_pop N w_54 v_stack) (fun (r_57 : Int32) (w_58 : Int32) =>
    mm_bd1 (fX2_joined N (mm_ig v_steps x8) r_57 r_53) (fun (r_60 : Int32) =>
    mm_bd2 (fX2_push N r_60 w_58 v_stack) (fun (w_62 : Int32) (w_63 : List Int32) =>
    fX2_worth_317 N (fX2_worth_24 N n) x1 x2 x3 x4 x5 x6 x7 x8 v_stepCount w_62 v_steps w_63))))))
    else (mm_ck (mm_inb x8 v_steps.length) (mm_bd2 (fX2_push N ((mm_ig v_steps x8) - (1000 : Int32)) v_stacked v_stack) (fun (w_66 : Int32) (w_67 : List Int32) =>
    fX2_worth_317 N (fX2_worth_24 N n) x1 x2 x3 x4 x5 x6 x7 x8 v_stepCount w_66 v_steps w_67)))))))))))))))))

set_option maxHeartbeats 4000000 in
set_option maxRecDepth 100000 in
theorem tX2_worth_24 {p : Program} {l : Launch} {e : Env} {s : State} {m : MethodId} {args : Array Value} {below : List Frame} {meth : Method} {c : Code} {D : va_G} {cI cL cS cH : ClassId} {A : Nat → Prop} {d : Nat} {a : Nat → Nat} (hd : 2 ≤ d) (C0 : mm_Cx p s m args meth c RX2 cX2_worth 11 (some .int) D (mm_T cI cL cS cH) A) (hA : ∀ q, s.heap.size ≤ q → A q) {v_size : Int32} {v_draftCount : Int32} {v_place : Int32} {v_fault : Int32} {v_tape : List Int32} {v_draft : List Int32} {r : Int32} {w_stacked : Int32} {w_stack : List Int32} (N : Nat)  : ∀ (n : Nat), ∀ (x1 : Int32) (x2 : Int32) (x3 : Int32) (x4 : Int32) (x5 : Int32) (x6 : Int32) (x7 : Int32) (x8 : Int32) (v_stepCount : Int32) (v_stacked : Int32) (v_steps : List Int32) (v_stack : List Int32) (H : Heap) (locs : List Loc) (ls : Array Slot), fX2_worth_24 N n x1 x2 x3 x4 x5 x6 x7 x8 v_stepCount v_stacked v_steps v_stack = some (r, w_stacked, w_stack) → va_P D mm_cl (wd_X2 cI cL cS cH a v_size v_stepCount v_draftCount v_place v_fault v_stacked v_tape v_steps v_draft v_stack) H → va_D A (wd_X2 cI cL cS cH a v_size v_stepCount v_draftCount v_place v_fault v_stacked v_tape v_steps v_draft v_stack) → va_S A s.heap H locs → lv_has ls 11 [(0, .ref (a 0)), (1, .int x1), (2, .int x2), (3, .int x3), (4, .int x4), (5, .int x5), (6, .int x6), (7, .int x7), (8, .int x8)] → W p l e (mm_rr d) s m args below meth c H locs 0 0 (mm_Z below D A (wd_X2 cI cL cS cH a v_size v_stepCount v_draftCount v_place v_fault w_stacked v_tape v_steps v_draft w_stack) (some (.int r)) args s) (F0 m 24 ls []) := by
  obtain ⟨hx, hb, hml, hown, hts, hr, hlocks, hK, hSt⟩ := id C0
  intro n
  induction n with
  | zero =>
    intro x1 x2 x3 x4 x5 x6 x7 x8 v_stepCount v_stacked v_steps v_stack H locs ls hf
    cases (show none = some _ from hf)
  | succ n ih =>
    intro x1 x2 x3 x4 x5 x6 x7 x8 v_stepCount v_stacked v_steps v_stack H locs ls hf hP hD hS hl
    unfold fX2_worth_24 at hf
    refine lv_iload hx hb dX2_worth_24 (lv_at hl 8 rfl) ?_
    refine lv_aload_n hx hb dX2_worth_26 rfl (lv_at hl 0 rfl) ?_
    refine mm_get C0 hP iw_X2 0 rfl rfl 3 (by decide) fl_X2_53 rfl dX2_worth_27 ?_
    refine lv_icmp_ge (tgt := 323) hx hb dX2_worth_30 (by decide) (fun c_2 => ?_) (fun c_2 => ?_)
    · have hf := mm_ip hf c_2
      refine lv_iconst (v := 0) hx hb dX2_worth_323 (by decide) ?_
      apply mm_sub3 hf
      exact mm_iret C0 hP hD hS dX2_worth_324
    · have hf := mm_in hf c_2
      refine lv_aload_n hx hb dX2_worth_33 rfl (lv_at hl 0 rfl) ?_
      refine mm_get C0 hP iw_X2 0 rfl rfl 2 (by decide) fl_X2_15 rfl dX2_worth_34 ?_
      refine lv_iload hx hb dX2_worth_37 (lv_at hl 8 rfl) ?_
      obtain ⟨h_3, hf⟩ := mm_cks hf
      refine mm_iald C0 hP 2 rfl h_3 dX2_worth_39 ?_
      refine lv_topi (fun y_4 ey_4 => ?_)
      have hf := mm_nms hf ey_4
      by_cases c_5 : y_4 = (33 : Int32)
      · have hf := mm_ip hf c_5
        refine lv_lookup (off := 189) (tgt := 229) hx hb dX2_worth_40 (by decide) (by rw [c_5]; first | done | rfl | decide) (by decide) ?_
        refine lv_aload_n hx hb dX2_worth_229 rfl (lv_at hl 0 rfl) ?_
        refine lv_aload_n hx hb dX2_worth_230 rfl (lv_at hl 0 rfl) ?_
        obtain ⟨r_6, w_7, hc_8, hf⟩ := mm_bd2s hf
        refine mm_callVF (q0 := 0) (ci := 2) (rest := [.ref (a 0)]) C0 lk_X2_94 (ctX2_pop (a := a) (d := d - 1) (by omega) hc_8) (by omega) rfl hl.1 rfl (mm_cat rfl) dX2_worth_231 hP hD hA hS rfl rfl (fun H locs hP hD hS => ?_)
        refine W.eq (g2 := F0 m 234 ls [.int r_6, .ref (a 0)]) rfl ?_
        refine lv_if_ne (tgt := 241) hx hb dX2_worth_234 (by decide) (fun c_9 => ?_) (fun c_9 => ?_)
        · have hf := mm_in hf c_9
          refine lv_iconst (v := 0) hx hb dX2_worth_241 (by decide) ?_
          exact tX2_worth_242 hd C0 hA N ih _ _ _ _ _ _ _ _ _ _ _ _ _ H locs ls hf hP hD hS (lv_sub hl [0, 1, 2, 3, 4, 5, 6, 7, 8] rfl)
        · have hf := mm_ip hf c_9
          refine lv_iconst (v := 1) hx hb dX2_worth_237 (by decide) ?_
          refine lv_goto (tgt := 242) hx hb dX2_worth_238 (by decide) ?_
          exact tX2_worth_242 hd C0 hA N ih _ _ _ _ _ _ _ _ _ _ _ _ _ H locs ls hf hP hD hS (lv_sub hl [0, 1, 2, 3, 4, 5, 6, 7, 8] rfl)
      · have hf := mm_in hf c_5
        by_cases c_10 : y_4 = (59 : Int32)
        · have hf := mm_ip hf c_10
          refine lv_lookup (off := 92) (tgt := 132) hx hb dX2_worth_40 (by decide) (by rw [c_10]; first | done | rfl | decide) (by decide) ?_
          refine lv_aload_n hx hb dX2_worth_132 rfl (lv_at hl 0 rfl) ?_
          obtain ⟨r_11, w_12, hc_13, hf⟩ := mm_bd2s hf
          refine mm_callVF (q0 := 0) (ci := 2) (rest := []) C0 lk_X2_94 (ctX2_pop (a := a) (d := d - 1) (by omega) hc_13) (by omega) rfl hl.1 rfl (mm_cat rfl) dX2_worth_133 hP hD hA hS rfl rfl (fun H locs hP hD hS => ?_)
          refine W.eq (g2 := F0 m 136 ls [.int r_11]) rfl ?_
          refine lv_istore (lv' := [(9, .int r_11), (0, .ref (a 0)), (1, .int x1), (2, .int x2), (3, .int x3), (4, .int x4), (5, .int x5), (6, .int x6), (7, .int x7), (8, .int x8)]) hx hb dX2_worth_136 hl (by decide) rfl (fun ls hl => ?_)
          refine lv_iload hx hb dX2_worth_138 (lv_at hl 8 rfl) ?_
          refine lv_if_eq (tgt := 155) hx hb dX2_worth_140 (by decide) (fun c_14 => ?_) (fun c_14 => ?_)
          · have hf := mm_ip hf c_14
            refine lv_iconst (v := 1) hx hb dX2_worth_155 (by decide) ?_
            refine lv_istore (lv' := [(7, .int (1 : Int32)), (9, .int r_11), (0, .ref (a 0)), (1, .int x1), (2, .int x2), (3, .int x3), (4, .int x4), (5, .int x5), (6, .int x6), (8, .int x8)]) hx hb dX2_worth_156 hl (by decide) rfl (fun ls hl => ?_)
            refine lv_goto (tgt := 317) hx hb dX2_worth_158 (by decide) ?_
            exact tX2_worth_317 hd C0 hA N ih _ _ _ _ _ _ _ _ _ _ _ _ H locs ls hf hP hD hS (lv_sub hl [2, 3, 4, 5, 6, 7, 8, 0, 9] rfl)
          · have hf := mm_in hf c_14
            refine lv_iconst (v := 0) hx hb dX2_worth_143 (by decide) ?_
            refine lv_bipush (v := 9) hx hb dX2_worth_144 (by decide) ?_
            refine lv_iload hx hb dX2_worth_146 (lv_at hl 0 rfl) ?_
            refine mm_mmin C0 lm_X2_97 (by omega) hl.1 (mm_cat rfl) dX2_worth_148 ?_
            refine mm_mmax C0 lm_X2_103 (by omega) hl.1 (mm_cat rfl) dX2_worth_151 ?_
            apply mm_sub3 hf
            exact mm_iret C0 hP hD hS dX2_worth_154
        · have hf := mm_in hf c_10
          by_cases c_15 : y_4 = (63 : Int32)
          · have hf := mm_ip hf c_15
            refine lv_lookup (off := 121) (tgt := 161) hx hb dX2_worth_40 (by decide) (by rw [c_15]; first | done | rfl | decide) (by decide) ?_
            refine lv_aload_n hx hb dX2_worth_161 rfl (lv_at hl 0 rfl) ?_
            obtain ⟨r_16, w_17, hc_18, hf⟩ := mm_bd2s hf
            refine mm_callVF (q0 := 0) (ci := 2) (rest := []) C0 lk_X2_94 (ctX2_pop (a := a) (d := d - 1) (by omega) hc_18) (by omega) rfl hl.1 rfl (mm_cat rfl) dX2_worth_162 hP hD hA hS rfl rfl (fun H locs hP hD hS => ?_)
            refine W.eq (g2 := F0 m 165 ls [.int r_16]) rfl ?_
            refine lv_if_eq (tgt := 172) hx hb dX2_worth_165 (by decide) (fun c_19 => ?_) (fun c_19 => ?_)
            · have hf := mm_ip hf c_19
              refine lv_iconst (v := 0) hx hb dX2_worth_172 (by decide) ?_
              exact tX2_worth_173 hd C0 hA N ih _ _ _ _ _ _ _ _ _ _ _ _ H locs ls hf hP hD hS (lv_sub hl [0, 1, 2, 3, 4, 5, 6, 8] rfl)
            · have hf := mm_in hf c_19
              refine lv_iconst (v := 1) hx hb dX2_worth_168 (by decide) ?_
              refine lv_goto (tgt := 173) hx hb dX2_worth_169 (by decide) ?_
              exact tX2_worth_173 hd C0 hA N ih _ _ _ _ _ _ _ _ _ _ _ _ H locs ls hf hP hD hS (lv_sub hl [0, 1, 2, 3, 4, 5, 6, 8] rfl)
          · have hf := mm_in hf c_15
            by_cases c_20 : y_4 = (98 : Int32)
            · have hf := mm_ip hf c_20
              refine lv_lookup (off := 180) (tgt := 220) hx hb dX2_worth_40 (by decide) (by rw [c_20]; first | done | rfl | decide) (by decide) ?_
              refine lv_aload_n hx hb dX2_worth_220 rfl (lv_at hl 0 rfl) ?_
              refine lv_iload hx hb dX2_worth_221 (lv_at hl 6 rfl) ?_
              obtain ⟨w_21, w_22, hc_23, hf⟩ := mm_bd2s hf
              refine mm_callVF (q0 := 0) (ci := 2) (rest := []) C0 lk_X2_106 (ctX2_push (a := a) (d := d - 1) (by omega) hc_23) (by omega) rfl hl.1 rfl (mm_cat rfl) dX2_worth_223 hP hD hA hS rfl rfl (fun H locs hP hD hS => ?_)
              refine W.eq (g2 := F0 m 226 ls []) rfl ?_
              refine lv_goto (tgt := 317) hx hb dX2_worth_226 (by decide) ?_
              exact tX2_worth_317 hd C0 hA N ih _ _ _ _ _ _ _ _ _ _ _ _ H locs ls hf hP hD hS (lv_sub hl [0, 1, 2, 3, 4, 5, 6, 7, 8] rfl)
            · have hf := mm_in hf c_20
              by_cases c_24 : y_4 = (102 : Int32)
              · have hf := mm_ip hf c_24
                refine lv_lookup (off := 171) (tgt := 211) hx hb dX2_worth_40 (by decide) (by rw [c_24]; first | done | rfl | decide) (by decide) ?_
                refine lv_aload_n hx hb dX2_worth_211 rfl (lv_at hl 0 rfl) ?_
                refine lv_iload hx hb dX2_worth_212 (lv_at hl 5 rfl) ?_
                obtain ⟨w_25, w_26, hc_27, hf⟩ := mm_bd2s hf
                refine mm_callVF (q0 := 0) (ci := 2) (rest := []) C0 lk_X2_106 (ctX2_push (a := a) (d := d - 1) (by omega) hc_27) (by omega) rfl hl.1 rfl (mm_cat rfl) dX2_worth_214 hP hD hA hS rfl rfl (fun H locs hP hD hS => ?_)
                refine W.eq (g2 := F0 m 217 ls []) rfl ?_
                refine lv_goto (tgt := 317) hx hb dX2_worth_217 (by decide) ?_
                exact tX2_worth_317 hd C0 hA N ih _ _ _ _ _ _ _ _ _ _ _ _ H locs ls hf hP hD hS (lv_sub hl [0, 1, 2, 3, 4, 5, 6, 7, 8] rfl)
              · have hf := mm_in hf c_24
                by_cases c_28 : y_4 = (107 : Int32)
                · have hf := mm_ip hf c_28
                  refine lv_lookup (off := 162) (tgt := 202) hx hb dX2_worth_40 (by decide) (by rw [c_28]; first | done | rfl | decide) (by decide) ?_
                  refine lv_aload_n hx hb dX2_worth_202 rfl (lv_at hl 0 rfl) ?_
                  refine lv_iload hx hb dX2_worth_203 (lv_at hl 4 rfl) ?_
                  obtain ⟨w_29, w_30, hc_31, hf⟩ := mm_bd2s hf
                  refine mm_callVF (q0 := 0) (ci := 2) (rest := []) C0 lk_X2_106 (ctX2_push (a := a) (d := d - 1) (by omega) hc_31) (by omega) rfl hl.1 rfl (mm_cat rfl) dX2_worth_205 hP hD hA hS rfl rfl (fun H locs hP hD hS => ?_)
                  refine W.eq (g2 := F0 m 208 ls []) rfl ?_
                  refine lv_goto (tgt := 317) hx hb dX2_worth_208 (by decide) ?_
                  exact tX2_worth_317 hd C0 hA N ih _ _ _ _ _ _ _ _ _ _ _ _ H locs ls hf hP hD hS (lv_sub hl [0, 1, 2, 3, 4, 5, 6, 7, 8] rfl)
                · have hf := mm_in hf c_28
                  by_cases c_32 : y_4 = (110 : Int32)
                  · have hf := mm_ip hf c_32
                    refine lv_lookup (off := 138) (tgt := 178) hx hb dX2_worth_40 (by decide) (by rw [c_32]; first | done | rfl | decide) (by decide) ?_
                    refine lv_aload_n hx hb dX2_worth_178 rfl (lv_at hl 0 rfl) ?_
                    refine lv_iload_n hx hb dX2_worth_179 rfl (lv_at hl 1 rfl) ?_
                    obtain ⟨w_33, w_34, hc_35, hf⟩ := mm_bd2s hf
                    refine mm_callVF (q0 := 0) (ci := 2) (rest := []) C0 lk_X2_106 (ctX2_push (a := a) (d := d - 1) (by omega) hc_35) (by omega) rfl hl.1 rfl (mm_cat rfl) dX2_worth_180 hP hD hA hS rfl rfl (fun H locs hP hD hS => ?_)
                    refine W.eq (g2 := F0 m 183 ls []) rfl ?_
                    refine lv_goto (tgt := 317) hx hb dX2_worth_183 (by decide) ?_
                    exact tX2_worth_317 hd C0 hA N ih _ _ _ _ _ _ _ _ _ _ _ _ H locs ls hf hP hD hS (lv_sub hl [0, 1, 2, 3, 4, 5, 6, 7, 8] rfl)
                  · have hf := mm_in hf c_32
                    by_cases c_36 : y_4 = (114 : Int32)
                    · have hf := mm_ip hf c_36
                      refine lv_lookup (off := 154) (tgt := 194) hx hb dX2_worth_40 (by decide) (by rw [c_36]; first | done | rfl | decide) (by decide) ?_
                      refine lv_aload_n hx hb dX2_worth_194 rfl (lv_at hl 0 rfl) ?_
                      refine lv_iload_n hx hb dX2_worth_195 rfl (lv_at hl 3 rfl) ?_
                      obtain ⟨w_37, w_38, hc_39, hf⟩ := mm_bd2s hf
                      refine mm_callVF (q0 := 0) (ci := 2) (rest := []) C0 lk_X2_106 (ctX2_push (a := a) (d := d - 1) (by omega) hc_39) (by omega) rfl hl.1 rfl (mm_cat rfl) dX2_worth_196 hP hD hA hS rfl rfl (fun H locs hP hD hS => ?_)
                      refine W.eq (g2 := F0 m 199 ls []) rfl ?_
                      refine lv_goto (tgt := 317) hx hb dX2_worth_199 (by decide) ?_
                      exact tX2_worth_317 hd C0 hA N ih _ _ _ _ _ _ _ _ _ _ _ _ H locs ls hf hP hD hS (lv_sub hl [0, 1, 2, 3, 4, 5, 6, 7, 8] rfl)
                    · have hf := mm_in hf c_36
                      by_cases c_40 : y_4 = (119 : Int32)
                      · have hf := mm_ip hf c_40
                        refine lv_lookup (off := 146) (tgt := 186) hx hb dX2_worth_40 (by decide) (by rw [c_40]; first | done | rfl | decide) (by decide) ?_
                        refine lv_aload_n hx hb dX2_worth_186 rfl (lv_at hl 0 rfl) ?_
                        refine lv_iload_n hx hb dX2_worth_187 rfl (lv_at hl 2 rfl) ?_
                        obtain ⟨w_41, w_42, hc_43, hf⟩ := mm_bd2s hf
                        refine mm_callVF (q0 := 0) (ci := 2) (rest := []) C0 lk_X2_106 (ctX2_push (a := a) (d := d - 1) (by omega) hc_43) (by omega) rfl hl.1 rfl (mm_cat rfl) dX2_worth_188 hP hD hA hS rfl rfl (fun H locs hP hD hS => ?_)
                        refine W.eq (g2 := F0 m 191 ls []) rfl ?_
                        refine lv_goto (tgt := 317) hx hb dX2_worth_191 (by decide) ?_
                        exact tX2_worth_317 hd C0 hA N ih _ _ _ _ _ _ _ _ _ _ _ _ H locs ls hf hP hD hS (lv_sub hl [0, 1, 2, 3, 4, 5, 6, 7, 8] rfl)
                      · have hf := mm_in hf c_40
                        by_cases c_44 : y_4 = (126 : Int32)
                        · have hf := mm_ip hf c_44
                          refine lv_lookup (off := 208) (tgt := 248) hx hb dX2_worth_40 (by decide) (by rw [c_44]; first | done | rfl | decide) (by decide) ?_
                          refine lv_aload_n hx hb dX2_worth_248 rfl (lv_at hl 0 rfl) ?_
                          refine lv_aload_n hx hb dX2_worth_249 rfl (lv_at hl 0 rfl) ?_
                          obtain ⟨r_45, w_46, hc_47, hf⟩ := mm_bd2s hf
                          refine mm_callVF (q0 := 0) (ci := 2) (rest := [.ref (a 0)]) C0 lk_X2_94 (ctX2_pop (a := a) (d := d - 1) (by omega) hc_47) (by omega) rfl hl.1 rfl (mm_cat rfl) dX2_worth_250 hP hD hA hS rfl rfl (fun H locs hP hD hS => ?_)
                          refine W.eq (g2 := F0 m 253 ls [.int r_45, .ref (a 0)]) rfl ?_
                          refine lv_ineg hx hb dX2_worth_253 ?_
                          obtain ⟨w_48, w_49, hc_50, hf⟩ := mm_bd2s hf
                          refine mm_callVF (q0 := 0) (ci := 2) (rest := []) C0 lk_X2_106 (ctX2_push (a := a) (d := d - 1) (by omega) hc_50) (by omega) rfl hl.1 rfl (mm_cat rfl) dX2_worth_254 hP hD hA hS rfl rfl (fun H locs hP hD hS => ?_)
                          refine W.eq (g2 := F0 m 257 ls []) rfl ?_
                          refine lv_goto (tgt := 317) hx hb dX2_worth_257 (by decide) ?_
                          exact tX2_worth_317 hd C0 hA N ih _ _ _ _ _ _ _ _ _ _ _ _ H locs ls hf hP hD hS (lv_sub hl [0, 1, 2, 3, 4, 5, 6, 7, 8] rfl)
                        · have hf := mm_in hf c_44
                          refine lv_lookup (off := 220) (tgt := 260) hx hb dX2_worth_40 (by decide) ((lv_osw c_5 (by decide)).trans ((lv_osw c_10 (by decide)).trans ((lv_osw c_15 (by decide)).trans ((lv_osw c_20 (by decide)).trans ((lv_osw c_24 (by decide)).trans ((lv_osw c_28 (by decide)).trans ((lv_osw c_32 (by decide)).trans ((lv_osw c_36 (by decide)).trans ((lv_osw c_40 (by decide)).trans ((lv_osw c_44 (by decide)).trans (rfl))))))))))) (by decide) ?_
                          refine lv_aload_n hx hb dX2_worth_260 rfl (lv_at hl 0 rfl) ?_
                          refine mm_get C0 hP iw_X2 0 rfl rfl 2 (by decide) fl_X2_15 rfl dX2_worth_261 ?_
                          refine lv_iload hx hb dX2_worth_264 (lv_at hl 8 rfl) ?_
                          obtain ⟨h_51, hf⟩ := mm_cks hf
                          refine mm_iald C0 hP 2 rfl h_51 dX2_worth_266 ?_
                          refine lv_sipush (v := 1000) hx hb dX2_worth_267 (by decide) ?_
                          refine lv_icmp_lt (tgt := 291) hx hb dX2_worth_270 (by decide) (fun c_52 => ?_) (fun c_52 => ?_)
                          · have hf := mm_ip hf c_52
                            refine lv_aload_n hx hb dX2_worth_291 rfl (lv_at hl 0 rfl) ?_
                            obtain ⟨r_53, w_54, hc_55, hf⟩ := mm_bd2s hf
                            refine mm_callVF (q0 := 0) (ci := 2) (rest := []) C0 lk_X2_94 (ctX2_pop (a := a) (d := d - 1) (by omega) hc_55) (by omega) rfl hl.1 rfl (mm_cat rfl) dX2_worth_292 hP hD hA hS rfl rfl (fun H locs hP hD hS => ?_)
                            refine W.eq (g2 := F0 m 295 ls [.int r_53]) rfl ?_
                            refine lv_istore (lv' := [(10, .int r_53), (0, .ref (a 0)), (1, .int x1), (2, .int x2), (3, .int x3), (4, .int x4), (5, .int x5), (6, .int x6), (7, .int x7), (8, .int x8)]) hx hb dX2_worth_295 hl (by decide) rfl (fun ls hl => ?_)
                            refine lv_aload_n hx hb dX2_worth_297 rfl (lv_at hl 1 rfl) ?_
                            refine lv_aload_n hx hb dX2_worth_298 rfl (lv_at hl 1 rfl) ?_
                            refine mm_get C0 hP iw_X2 0 rfl rfl 2 (by decide) fl_X2_15 rfl dX2_worth_299 ?_
                            refine lv_iload hx hb dX2_worth_302 (lv_at hl 9 rfl) ?_
                            obtain ⟨h_56, hf⟩ := mm_cks hf
                            refine mm_iald C0 hP 2 rfl h_56 dX2_worth_304 ?_
                            refine lv_aload_n hx hb dX2_worth_305 rfl (lv_at hl 1 rfl) ?_
                            obtain ⟨r_57, w_58, hc_59, hf⟩ := mm_bd2s hf
                            refine mm_callVF (q0 := 0) (ci := 2) (rest := [.int (mm_ig v_steps x8), .ref (a 0)]) C0 lk_X2_94 (ctX2_pop (a := a) (d := d - 1) (by omega) hc_59) (by omega) rfl hl.1 rfl (mm_cat rfl) dX2_worth_306 hP hD hA hS rfl rfl (fun H locs hP hD hS => ?_)
                            refine W.eq (g2 := F0 m 309 ls [.int r_57, .int (mm_ig v_steps x8), .ref (a 0)]) rfl ?_
                            refine lv_iload hx hb dX2_worth_309 (lv_at hl 0 rfl) ?_
                            obtain ⟨r_60, hc_61, hf⟩ := mm_bd1s hf
                            refine mm_callS0 (rest := [.ref (a 0)]) C0 lk_X2_109 (ctX2_joined (d := d - 1) (by omega) hc_61) (by omega) rfl hl.1 rfl (mm_cat rfl) dX2_worth_311 hP hD hA hS (fun H locs hP hS => ?_)
                            refine W.eq (g2 := F0 m 314 ls [.int r_60, .ref (a 0)]) rfl ?_
                            obtain ⟨w_62, w_63, hc_64, hf⟩ := mm_bd2s hf
                            refine mm_callVF (q0 := 0) (ci := 2) (rest := []) C0 lk_X2_106 (ctX2_push (a := a) (d := d - 1) (by omega) hc_64) (by omega) rfl hl.1 rfl (mm_cat rfl) dX2_worth_314 hP hD hA hS rfl rfl (fun H locs hP hD hS => ?_)
                            refine W.eq (g2 := F0 m 317 ls []) rfl ?_
                            exact tX2_worth_317 hd C0 hA N ih _ _ _ _ _ _ _ _ _ _ _ _ H locs ls hf hP hD hS (lv_sub hl [1, 2, 3, 4, 5, 6, 7, 8, 9] rfl)
                          · have hf := mm_in hf c_52
                            refine lv_aload_n hx hb dX2_worth_273 rfl (lv_at hl 0 rfl) ?_
                            refine lv_aload_n hx hb dX2_worth_274 rfl (lv_at hl 0 rfl) ?_
                            refine mm_get C0 hP iw_X2 0 rfl rfl 2 (by decide) fl_X2_15 rfl dX2_worth_275 ?_
                            refine lv_iload hx hb dX2_worth_278 (lv_at hl 8 rfl) ?_
                            obtain ⟨h_65, hf⟩ := mm_cks hf
                            refine mm_iald C0 hP 2 rfl h_65 dX2_worth_280 ?_
                            refine lv_sipush (v := 1000) hx hb dX2_worth_281 (by decide) ?_
                            refine lv_isub hx hb dX2_worth_284 ?_
                            obtain ⟨w_66, w_67, hc_68, hf⟩ := mm_bd2s hf
                            refine mm_callVF (q0 := 0) (ci := 2) (rest := []) C0 lk_X2_106 (ctX2_push (a := a) (d := d - 1) (by omega) hc_68) (by omega) rfl hl.1 rfl (mm_cat rfl) dX2_worth_285 hP hD hA hS rfl rfl (fun H locs hP hD hS => ?_)
                            refine W.eq (g2 := F0 m 288 ls []) rfl ?_
                            refine lv_goto (tgt := 317) hx hb dX2_worth_288 (by decide) ?_
                            exact tX2_worth_317 hd C0 hA N ih _ _ _ _ _ _ _ _ _ _ _ _ H locs ls hf hP hD hS (lv_sub hl [0, 1, 2, 3, 4, 5, 6, 7, 8] rfl)

def fX2_worth (N : Nat) (x1 : Int32) (x2 : Int32) (x3 : Int32) (x4 : Int32) (x5 : Int32) (x6 : Int32) (v_stepCount : Int32) (v_stacked : Int32) (v_steps : List Int32) (v_stack : List Int32) : Option (Int32 × Int32 × List Int32) :=
    if v_stepCount = 0 then
    (some (((1 : Int32) + ((2 : Int32) * x3)), v_stacked, v_stack))
    else (fX2_worth_24 N N x1 x2 x3 x4 x5 x6 (1 : Int32) (0 : Int32) v_stepCount (0 : Int32) v_steps v_stack)

set_option maxHeartbeats 4000000 in
set_option maxRecDepth 100000 in
theorem ctX2_worth {l : Launch} {D : va_G} {cI cL cS cH : ClassId} {a : Nat → Nat} {x1 : Int32} {x2 : Int32} {x3 : Int32} {x4 : Int32} {x5 : Int32} {x6 : Int32} {v_size : Int32} {v_stepCount : Int32} {v_draftCount : Int32} {v_place : Int32} {v_fault : Int32} {v_stacked : Int32} {v_tape : List Int32} {v_steps : List Int32} {v_draft : List Int32} {v_stack : List Int32} {r : Int32} {w_stacked : Int32} {w_stack : List Int32} {N d : Nat} (hd : 2 ≤ d) (hf : fX2_worth N x1 x2 x3 x4 x5 x6 v_stepCount v_stacked v_steps v_stack = some (r, w_stacked, w_stack)) : mm_Ct l yX2_worth cX2_worth 11 (some .int) d D (mm_T cI cL cS cH) [.ref (a 0), .int x1, .int x2, .int x3, .int x4, .int x5, .int x6] (wd_X2 cI cL cS cH a v_size v_stepCount v_draftCount v_place v_fault v_stacked v_tape v_steps v_draft v_stack) (wd_X2 cI cL cS cH a v_size v_stepCount v_draftCount v_place v_fault w_stacked v_tape v_steps v_draft w_stack) (some (.int r)) := by
  refine mm_of (by decide) (Nat.le_of_ble_eq_true rfl) ?_
  intro p e s m args below meth c A H locs ls C0 hP hD hA hS hl
  have C0 : mm_Cx p s m args meth c RX2 cX2_worth 11 (some .int) D (mm_T cI cL cS cH) A := C0
  obtain ⟨hx, hb, hml, hown, hts, hr, hlocks, hK, hSt⟩ := id C0
  have hl : lv_has ls 11 [(0, .ref (a 0)), (1, .int x1), (2, .int x2), (3, .int x3), (4, .int x4), (5, .int x5), (6, .int x6)] := hl
  unfold fX2_worth at hf
  refine lv_aload_n hx hb dX2_worth_0 rfl (lv_at hl 0 rfl) ?_
  refine mm_get C0 hP iw_X2 0 rfl rfl 3 (by decide) fl_X2_53 rfl dX2_worth_1 ?_
  refine lv_if_ne (tgt := 13) hx hb dX2_worth_4 (by decide) (fun c_1 => ?_) (fun c_1 => ?_)
  · have hf := mm_in hf c_1
    refine lv_aload_n hx hb dX2_worth_13 rfl (lv_at hl 0 rfl) ?_
    refine lv_iconst (v := 0) hx hb dX2_worth_14 (by decide) ?_
    refine mm_put C0 hP hD hS iw_X2 tyX2 tyX2_ok nmX2 0 rfl rfl 9 (by decide) fl_X2_91 rfl rfl rfl (Nat.le_of_ble_eq_true rfl) dX2_worth_15 (w2 := (wd_X2 cI cL cS cH a v_size v_stepCount v_draftCount v_place v_fault (0 : Int32) v_tape v_steps v_draft v_stack)) rfl (fun H locs hP hD hS => ?_)
    refine lv_iconst (v := 1) hx hb dX2_worth_18 (by decide) ?_
    refine lv_istore (lv' := [(7, .int (1 : Int32)), (0, .ref (a 0)), (1, .int x1), (2, .int x2), (3, .int x3), (4, .int x4), (5, .int x5), (6, .int x6)]) hx hb dX2_worth_19 hl (by decide) rfl (fun ls hl => ?_)
    refine lv_iconst (v := 0) hx hb dX2_worth_21 (by decide) ?_
    refine lv_istore (lv' := [(8, .int (0 : Int32)), (7, .int (1 : Int32)), (0, .ref (a 0)), (1, .int x1), (2, .int x2), (3, .int x3), (4, .int x4), (5, .int x5), (6, .int x6)]) hx hb dX2_worth_22 hl (by decide) rfl (fun ls hl => ?_)
    exact tX2_worth_24 hd C0 hA N  N _ _ _ _ _ _ _ _ _ _ _ _ H locs ls hf hP hD hS (lv_sub hl [2, 3, 4, 5, 6, 7, 8, 1, 0] rfl)
  · have hf := mm_ip hf c_1
    refine lv_iconst (v := 1) hx hb dX2_worth_7 (by decide) ?_
    refine lv_iconst (v := 2) hx hb dX2_worth_8 (by decide) ?_
    refine lv_iload_n hx hb dX2_worth_9 rfl (lv_at hl 3 rfl) ?_
    refine lv_imul hx hb dX2_worth_10 ?_
    refine lv_iadd hx hb dX2_worth_11 ?_
    apply mm_sub3 hf
    exact mm_iret C0 hP hD hS dX2_worth_12

theorem nb_dX5_forgetLed_0 : bls_w cX5_forgetLed [(0, [42]), (1, [3]), (2, [181, 0, 59]), (5, [42]), (6, [3]), (7, [181, 0, 62]), (10, [42]), (11, [3]), (12, [181, 0, 65]), (15, [177])] := bls_of (by decide +kernel)
theorem dX5_forgetLed_0 : decode cX5_forgetLed 0 = .ok (.aload_n 0, 1) := op_42 nb_dX5_forgetLed_0.1
theorem dX5_forgetLed_1 : decode cX5_forgetLed 1 = .ok (.iconst 0, 1) := op_3 nb_dX5_forgetLed_0.2.1
set_option maxRecDepth 100000 in
theorem dX5_forgetLed_2 : decode cX5_forgetLed 2 = .ok (.putfield 59, 3) := (op_181 nb_dX5_forgetLed_0.2.2.1).trans rfl
theorem dX5_forgetLed_5 : decode cX5_forgetLed 5 = .ok (.aload_n 0, 1) := op_42 nb_dX5_forgetLed_0.2.2.2.1
theorem dX5_forgetLed_6 : decode cX5_forgetLed 6 = .ok (.iconst 0, 1) := op_3 nb_dX5_forgetLed_0.2.2.2.2.1
set_option maxRecDepth 100000 in
theorem dX5_forgetLed_7 : decode cX5_forgetLed 7 = .ok (.putfield 62, 3) := (op_181 nb_dX5_forgetLed_0.2.2.2.2.2.1).trans rfl
theorem dX5_forgetLed_10 : decode cX5_forgetLed 10 = .ok (.aload_n 0, 1) := op_42 nb_dX5_forgetLed_0.2.2.2.2.2.2.1
theorem dX5_forgetLed_11 : decode cX5_forgetLed 11 = .ok (.iconst 0, 1) := op_3 nb_dX5_forgetLed_0.2.2.2.2.2.2.2.1
set_option maxRecDepth 100000 in
theorem dX5_forgetLed_12 : decode cX5_forgetLed 12 = .ok (.putfield 65, 3) := (op_181 nb_dX5_forgetLed_0.2.2.2.2.2.2.2.2.1).trans rfl
theorem dX5_forgetLed_15 : decode cX5_forgetLed 15 = .ok (.return_, 1) := op_177 nb_dX5_forgetLed_0.2.2.2.2.2.2.2.2.2.1
def fX5_forgetLed (N : Nat) (v_folds : Int32) (v_wrong : Int32) (v_more : Int32) : Option (Int32 × Int32 × Int32) :=
    some ((0 : Int32), (0 : Int32), (0 : Int32))

set_option maxHeartbeats 4000000 in
set_option maxRecDepth 100000 in
theorem ctX5_forgetLed {l : Launch} {D : va_G} {cI cL cS cH : ClassId} {a : Nat → Nat}  {v_rows : Int32} {v_cols : Int32} {v_high : Int32} {v_wide : Int32} {v_folds : Int32} {v_wrong : Int32} {v_more : Int32} {v_rowOf : List Int32} {v_colOf : List Int32} {v_below : List Int32} {v_face : List Int32} {v_worn : List Int32} {v_last : List Int32} {v_bend : List Int32} {v_tall : List Int32} {w_folds : Int32} {w_wrong : Int32} {w_more : Int32} {N d : Nat} (hd : 1 ≤ d) (hf : fX5_forgetLed N v_folds v_wrong v_more = some (w_folds, w_wrong, w_more)) : mm_Ct l yX5_forgetLed cX5_forgetLed 1 none d D (mm_T cI cL cS cH) [.ref (a 0)] (wd_X5 cI cL cS cH a v_rows v_cols v_high v_wide v_folds v_wrong v_more v_rowOf v_colOf v_below v_face v_worn v_last v_bend v_tall) (wd_X5 cI cL cS cH a v_rows v_cols v_high v_wide w_folds w_wrong w_more v_rowOf v_colOf v_below v_face v_worn v_last v_bend v_tall) none := by
  refine mm_of (by decide) (Nat.le_of_ble_eq_true rfl) ?_
  intro p e s m args below meth c A H locs ls C0 hP hD hA hS hl
  have C0 : mm_Cx p s m args meth c RX5 cX5_forgetLed 1 none D (mm_T cI cL cS cH) A := C0
  obtain ⟨hx, hb, hml, hown, hts, hr, hlocks, hK, hSt⟩ := id C0
  have hl : lv_has ls 1 [(0, .ref (a 0))] := hl
  unfold fX5_forgetLed at hf
  refine lv_aload_n hx hb dX5_forgetLed_0 rfl (lv_at hl 0 rfl) ?_
  refine lv_iconst (v := 0) hx hb dX5_forgetLed_1 (by decide) ?_
  refine mm_put C0 hP hD hS iw_X5 tyX5 tyX5_ok nmX5 0 rfl rfl 4 (by decide) fl_X5_59 rfl rfl rfl (Nat.le_of_ble_eq_true rfl) dX5_forgetLed_2 (w2 := (wd_X5 cI cL cS cH a v_rows v_cols v_high v_wide (0 : Int32) v_wrong v_more v_rowOf v_colOf v_below v_face v_worn v_last v_bend v_tall)) rfl (fun H locs hP hD hS => ?_)
  refine lv_aload_n hx hb dX5_forgetLed_5 rfl (lv_at hl 0 rfl) ?_
  refine lv_iconst (v := 0) hx hb dX5_forgetLed_6 (by decide) ?_
  refine mm_put C0 hP hD hS iw_X5 tyX5 tyX5_ok nmX5 0 rfl rfl 5 (by decide) fl_X5_62 rfl rfl rfl (Nat.le_of_ble_eq_true rfl) dX5_forgetLed_7 (w2 := (wd_X5 cI cL cS cH a v_rows v_cols v_high v_wide (0 : Int32) (0 : Int32) v_more v_rowOf v_colOf v_below v_face v_worn v_last v_bend v_tall)) rfl (fun H locs hP hD hS => ?_)
  refine lv_aload_n hx hb dX5_forgetLed_10 rfl (lv_at hl 0 rfl) ?_
  refine lv_iconst (v := 0) hx hb dX5_forgetLed_11 (by decide) ?_
  refine mm_put C0 hP hD hS iw_X5 tyX5 tyX5_ok nmX5 0 rfl rfl 6 (by decide) fl_X5_65 rfl rfl rfl (Nat.le_of_ble_eq_true rfl) dX5_forgetLed_12 (w2 := (wd_X5 cI cL cS cH a v_rows v_cols v_high v_wide (0 : Int32) (0 : Int32) (0 : Int32) v_rowOf v_colOf v_below v_face v_worn v_last v_bend v_tall)) rfl (fun H locs hP hD hS => ?_)
  apply mm_sub3 hf
  exact mm_vret C0 hP hD hS dX5_forgetLed_15

theorem nb_dX5_layOut_0 : bls_w cX5_layOut [(0, [42]), (1, [42]), (2, [180, 0, 40]), (5, [181, 0, 68]), (8, [42]), (9, [42]), (10, [180, 0, 44]), (13, [181, 0, 71]), (16, [3]), (17, [60]), (18, [3]), (19, [61])] := bls_of (by decide +kernel)
theorem dX5_layOut_0 : decode cX5_layOut 0 = .ok (.aload_n 0, 1) := op_42 nb_dX5_layOut_0.1
theorem dX5_layOut_1 : decode cX5_layOut 1 = .ok (.aload_n 0, 1) := op_42 nb_dX5_layOut_0.2.1
set_option maxRecDepth 100000 in
theorem dX5_layOut_2 : decode cX5_layOut 2 = .ok (.getfield 40, 3) := (op_180 nb_dX5_layOut_0.2.2.1).trans rfl
set_option maxRecDepth 100000 in
theorem dX5_layOut_5 : decode cX5_layOut 5 = .ok (.putfield 68, 3) := (op_181 nb_dX5_layOut_0.2.2.2.1).trans rfl
theorem dX5_layOut_8 : decode cX5_layOut 8 = .ok (.aload_n 0, 1) := op_42 nb_dX5_layOut_0.2.2.2.2.1
theorem dX5_layOut_9 : decode cX5_layOut 9 = .ok (.aload_n 0, 1) := op_42 nb_dX5_layOut_0.2.2.2.2.2.1
set_option maxRecDepth 100000 in
theorem dX5_layOut_10 : decode cX5_layOut 10 = .ok (.getfield 44, 3) := (op_180 nb_dX5_layOut_0.2.2.2.2.2.2.1).trans rfl
set_option maxRecDepth 100000 in
theorem dX5_layOut_13 : decode cX5_layOut 13 = .ok (.putfield 71, 3) := (op_181 nb_dX5_layOut_0.2.2.2.2.2.2.2.1).trans rfl
theorem dX5_layOut_16 : decode cX5_layOut 16 = .ok (.iconst 0, 1) := op_3 nb_dX5_layOut_0.2.2.2.2.2.2.2.2.1
theorem dX5_layOut_17 : decode cX5_layOut 17 = .ok (.istore_n 1, 1) := op_60 nb_dX5_layOut_0.2.2.2.2.2.2.2.2.2.1
theorem dX5_layOut_18 : decode cX5_layOut 18 = .ok (.iconst 0, 1) := op_3 nb_dX5_layOut_0.2.2.2.2.2.2.2.2.2.2.1
theorem dX5_layOut_19 : decode cX5_layOut 19 = .ok (.istore_n 2, 1) := op_61 nb_dX5_layOut_0.2.2.2.2.2.2.2.2.2.2.2.1
theorem nb_dX5_layOut_20 : bls_w cX5_layOut [(20, [28]), (21, [42]), (22, [180, 0, 40]), (25, [162, 0, 56]), (28, [3]), (29, [62]), (30, [29]), (31, [42]), (32, [180, 0, 44]), (35, [162, 0, 40]), (38, [42]), (39, [180, 0, 9])] := bls_of (by decide +kernel)
theorem dX5_layOut_20 : decode cX5_layOut 20 = .ok (.iload_n 2, 1) := op_28 nb_dX5_layOut_20.1
theorem dX5_layOut_21 : decode cX5_layOut 21 = .ok (.aload_n 0, 1) := op_42 nb_dX5_layOut_20.2.1
set_option maxRecDepth 100000 in
theorem dX5_layOut_22 : decode cX5_layOut 22 = .ok (.getfield 40, 3) := (op_180 nb_dX5_layOut_20.2.2.1).trans rfl
set_option maxRecDepth 100000 in
theorem dX5_layOut_25 : decode cX5_layOut 25 = .ok (.if_icmp .ge 56, 3) := (op_162 nb_dX5_layOut_20.2.2.2.1).trans rfl
theorem dX5_layOut_28 : decode cX5_layOut 28 = .ok (.iconst 0, 1) := op_3 nb_dX5_layOut_20.2.2.2.2.1
theorem dX5_layOut_29 : decode cX5_layOut 29 = .ok (.istore_n 3, 1) := op_62 nb_dX5_layOut_20.2.2.2.2.2.1
theorem dX5_layOut_30 : decode cX5_layOut 30 = .ok (.iload_n 3, 1) := op_29 nb_dX5_layOut_20.2.2.2.2.2.2.1
theorem dX5_layOut_31 : decode cX5_layOut 31 = .ok (.aload_n 0, 1) := op_42 nb_dX5_layOut_20.2.2.2.2.2.2.2.1
set_option maxRecDepth 100000 in
theorem dX5_layOut_32 : decode cX5_layOut 32 = .ok (.getfield 44, 3) := (op_180 nb_dX5_layOut_20.2.2.2.2.2.2.2.2.1).trans rfl
set_option maxRecDepth 100000 in
theorem dX5_layOut_35 : decode cX5_layOut 35 = .ok (.if_icmp .ge 40, 3) := (op_162 nb_dX5_layOut_20.2.2.2.2.2.2.2.2.2.1).trans rfl
theorem dX5_layOut_38 : decode cX5_layOut 38 = .ok (.aload_n 0, 1) := op_42 nb_dX5_layOut_20.2.2.2.2.2.2.2.2.2.2.1
set_option maxRecDepth 100000 in
theorem dX5_layOut_39 : decode cX5_layOut 39 = .ok (.getfield 9, 3) := (op_180 nb_dX5_layOut_20.2.2.2.2.2.2.2.2.2.2.2.1).trans rfl
theorem nb_dX5_layOut_42 : bls_w cX5_layOut [(42, [27]), (43, [28]), (44, [79]), (45, [42]), (46, [180, 0, 15]), (49, [27]), (50, [29]), (51, [79]), (52, [42]), (53, [180, 0, 18]), (56, [27]), (57, [3])] := bls_of (by decide +kernel)
theorem dX5_layOut_42 : decode cX5_layOut 42 = .ok (.iload_n 1, 1) := op_27 nb_dX5_layOut_42.1
theorem dX5_layOut_43 : decode cX5_layOut 43 = .ok (.iload_n 2, 1) := op_28 nb_dX5_layOut_42.2.1
theorem dX5_layOut_44 : decode cX5_layOut 44 = .ok (.iastore, 1) := op_79 nb_dX5_layOut_42.2.2.1
theorem dX5_layOut_45 : decode cX5_layOut 45 = .ok (.aload_n 0, 1) := op_42 nb_dX5_layOut_42.2.2.2.1
set_option maxRecDepth 100000 in
theorem dX5_layOut_46 : decode cX5_layOut 46 = .ok (.getfield 15, 3) := (op_180 nb_dX5_layOut_42.2.2.2.2.1).trans rfl
theorem dX5_layOut_49 : decode cX5_layOut 49 = .ok (.iload_n 1, 1) := op_27 nb_dX5_layOut_42.2.2.2.2.2.1
theorem dX5_layOut_50 : decode cX5_layOut 50 = .ok (.iload_n 3, 1) := op_29 nb_dX5_layOut_42.2.2.2.2.2.2.1
theorem dX5_layOut_51 : decode cX5_layOut 51 = .ok (.iastore, 1) := op_79 nb_dX5_layOut_42.2.2.2.2.2.2.2.1
theorem dX5_layOut_52 : decode cX5_layOut 52 = .ok (.aload_n 0, 1) := op_42 nb_dX5_layOut_42.2.2.2.2.2.2.2.2.1
set_option maxRecDepth 100000 in
theorem dX5_layOut_53 : decode cX5_layOut 53 = .ok (.getfield 18, 3) := (op_180 nb_dX5_layOut_42.2.2.2.2.2.2.2.2.2.1).trans rfl
theorem dX5_layOut_56 : decode cX5_layOut 56 = .ok (.iload_n 1, 1) := op_27 nb_dX5_layOut_42.2.2.2.2.2.2.2.2.2.2.1
theorem dX5_layOut_57 : decode cX5_layOut 57 = .ok (.iconst 0, 1) := op_3 nb_dX5_layOut_42.2.2.2.2.2.2.2.2.2.2.2.1
theorem nb_dX5_layOut_58 : bls_w cX5_layOut [(58, [79]), (59, [42]), (60, [180, 0, 21]), (63, [27]), (64, [3]), (65, [79]), (66, [132, 1, 1]), (69, [132, 3, 1]), (72, [167, 255, 214]), (75, [132, 2, 1]), (78, [167, 255, 198]), (81, [177])] := bls_of (by decide +kernel)
theorem dX5_layOut_58 : decode cX5_layOut 58 = .ok (.iastore, 1) := op_79 nb_dX5_layOut_58.1
theorem dX5_layOut_59 : decode cX5_layOut 59 = .ok (.aload_n 0, 1) := op_42 nb_dX5_layOut_58.2.1
set_option maxRecDepth 100000 in
theorem dX5_layOut_60 : decode cX5_layOut 60 = .ok (.getfield 21, 3) := (op_180 nb_dX5_layOut_58.2.2.1).trans rfl
theorem dX5_layOut_63 : decode cX5_layOut 63 = .ok (.iload_n 1, 1) := op_27 nb_dX5_layOut_58.2.2.2.1
theorem dX5_layOut_64 : decode cX5_layOut 64 = .ok (.iconst 0, 1) := op_3 nb_dX5_layOut_58.2.2.2.2.1
theorem dX5_layOut_65 : decode cX5_layOut 65 = .ok (.iastore, 1) := op_79 nb_dX5_layOut_58.2.2.2.2.2.1
set_option maxRecDepth 100000 in
theorem dX5_layOut_66 : decode cX5_layOut 66 = .ok (.iinc 1 1, 3) := (op_132 nb_dX5_layOut_58.2.2.2.2.2.2.1).trans rfl
set_option maxRecDepth 100000 in
theorem dX5_layOut_69 : decode cX5_layOut 69 = .ok (.iinc 3 1, 3) := (op_132 nb_dX5_layOut_58.2.2.2.2.2.2.2.1).trans rfl
set_option maxRecDepth 100000 in
theorem dX5_layOut_72 : decode cX5_layOut 72 = .ok (.goto (-42), 3) := (op_167 nb_dX5_layOut_58.2.2.2.2.2.2.2.2.1).trans rfl
set_option maxRecDepth 100000 in
theorem dX5_layOut_75 : decode cX5_layOut 75 = .ok (.iinc 2 1, 3) := (op_132 nb_dX5_layOut_58.2.2.2.2.2.2.2.2.2.1).trans rfl
set_option maxRecDepth 100000 in
theorem dX5_layOut_78 : decode cX5_layOut 78 = .ok (.goto (-58), 3) := (op_167 nb_dX5_layOut_58.2.2.2.2.2.2.2.2.2.2.1).trans rfl
theorem dX5_layOut_81 : decode cX5_layOut 81 = .ok (.return_, 1) := op_177 nb_dX5_layOut_58.2.2.2.2.2.2.2.2.2.2.2.1
def fX5_layOut_30 (N : Nat) (k_20 : Int32 → Int32 → Int32 → Int32 → Int32 → Int32 → List Int32 → List Int32 → List Int32 → List Int32 → Option (Int32 × Int32 × List Int32 × List Int32 × List Int32 × List Int32)) : Nat → Int32 → Int32 → Int32 → Int32 → Int32 → Int32 → Int32 → List Int32 → List Int32 → List Int32 → List Int32 → Option (Int32 × Int32 × List Int32 × List Int32 × List Int32 × List Int32)
  | 0 => fun _ _ _ _ _ _ _ _ _ _ _ => none
  | n + 1 => fun x1 x2 x3 v_rows v_cols v_high v_wide v_rowOf v_colOf v_below v_face =>
    if v_cols ≤ x3 then
    (mm_nm (x2 + (1 : Int32)) (fun (y_3 : Int32) =>
    k_20 x1 y_3 v_rows v_cols v_high v_wide v_rowOf v_colOf v_below v_face))
    else (mm_ck (mm_inb x1 v_rowOf.length) (mm_nm (mm_is v_rowOf x1 x2) (fun (l_5 : List Int32) =>
    mm_ck (mm_inb x1 v_colOf.length) (mm_nm (mm_is v_colOf x1 x3) (fun (l_7 : List Int32) =>
    mm_ck (mm_inb x1 v_below.length) (mm_nm (mm_is v_below x1 (0 : Int32)) (fun (l_9 : List Int32) =>
    mm_ck (mm_inb x1 v_face.length) (mm_nm (mm_is v_face x1 (0 : Int32)) (fun (l_11 : List Int32) =>
    mm_nm (x1 + (1 : Int32)) (fun (y_12 : Int32) =>
    mm_nm (x3 + (1 : Int32)) (fun (y_13 : Int32) =>
    fX5_layOut_30 N k_20 n y_12 x2 y_13 v_rows v_cols v_high v_wide l_5 l_7 l_9 l_11)))))))))))

set_option maxHeartbeats 4000000 in
set_option maxRecDepth 100000 in
theorem tX5_layOut_30 {p : Program} {l : Launch} {e : Env} {s : State} {m : MethodId} {args : Array Value} {below : List Frame} {meth : Method} {c : Code} {D : va_G} {cI cL cS cH : ClassId} {A : Nat → Prop} {d : Nat} {a : Nat → Nat} (hd : 1 ≤ d) (C0 : mm_Cx p s m args meth c RX5 cX5_layOut 4 none D (mm_T cI cL cS cH) A) (hA : ∀ q, s.heap.size ≤ q → A q) {v_folds : Int32} {v_wrong : Int32} {v_more : Int32} {v_worn : List Int32} {v_last : List Int32} {v_bend : List Int32} {v_tall : List Int32} {w_high : Int32} {w_wide : Int32} {w_rowOf : List Int32} {w_colOf : List Int32} {w_below : List Int32} {w_face : List Int32} (N : Nat) {k_20 : Int32 → Int32 → Int32 → Int32 → Int32 → Int32 → List Int32 → List Int32 → List Int32 → List Int32 → Option (Int32 × Int32 × List Int32 × List Int32 × List Int32 × List Int32)} (hk_20 : ∀ (x1 : Int32) (x2 : Int32) (v_rows : Int32) (v_cols : Int32) (v_high : Int32) (v_wide : Int32) (v_rowOf : List Int32) (v_colOf : List Int32) (v_below : List Int32) (v_face : List Int32) (H : Heap) (locs : List Loc) (ls : Array Slot), k_20 x1 x2 v_rows v_cols v_high v_wide v_rowOf v_colOf v_below v_face = some (w_high, w_wide, w_rowOf, w_colOf, w_below, w_face) → va_P D mm_cl (wd_X5 cI cL cS cH a v_rows v_cols v_high v_wide v_folds v_wrong v_more v_rowOf v_colOf v_below v_face v_worn v_last v_bend v_tall) H → va_D A (wd_X5 cI cL cS cH a v_rows v_cols v_high v_wide v_folds v_wrong v_more v_rowOf v_colOf v_below v_face v_worn v_last v_bend v_tall) → va_S A s.heap H locs → lv_has ls 4 [(0, .ref (a 0)), (1, .int x1), (2, .int x2)] → W p l e (mm_rr d) s m args below meth c H locs 0 0 (mm_Z below D A (wd_X5 cI cL cS cH a v_rows v_cols w_high w_wide v_folds v_wrong v_more w_rowOf w_colOf w_below w_face v_worn v_last v_bend v_tall) none args s) (F0 m 20 ls [])) : ∀ (n : Nat), ∀ (x1 : Int32) (x2 : Int32) (x3 : Int32) (v_rows : Int32) (v_cols : Int32) (v_high : Int32) (v_wide : Int32) (v_rowOf : List Int32) (v_colOf : List Int32) (v_below : List Int32) (v_face : List Int32) (H : Heap) (locs : List Loc) (ls : Array Slot), fX5_layOut_30 N k_20 n x1 x2 x3 v_rows v_cols v_high v_wide v_rowOf v_colOf v_below v_face = some (w_high, w_wide, w_rowOf, w_colOf, w_below, w_face) → va_P D mm_cl (wd_X5 cI cL cS cH a v_rows v_cols v_high v_wide v_folds v_wrong v_more v_rowOf v_colOf v_below v_face v_worn v_last v_bend v_tall) H → va_D A (wd_X5 cI cL cS cH a v_rows v_cols v_high v_wide v_folds v_wrong v_more v_rowOf v_colOf v_below v_face v_worn v_last v_bend v_tall) → va_S A s.heap H locs → lv_has ls 4 [(0, .ref (a 0)), (1, .int x1), (2, .int x2), (3, .int x3)] → W p l e (mm_rr d) s m args below meth c H locs 0 0 (mm_Z below D A (wd_X5 cI cL cS cH a v_rows v_cols w_high w_wide v_folds v_wrong v_more w_rowOf w_colOf w_below w_face v_worn v_last v_bend v_tall) none args s) (F0 m 30 ls []) := by
  obtain ⟨hx, hb, hml, hown, hts, hr, hlocks, hK, hSt⟩ := id C0
  intro n
  induction n with
  | zero =>
    intro x1 x2 x3 v_rows v_cols v_high v_wide v_rowOf v_colOf v_below v_face H locs ls hf
    cases (show none = some _ from hf)
  | succ n ih =>
    intro x1 x2 x3 v_rows v_cols v_high v_wide v_rowOf v_colOf v_below v_face H locs ls hf hP hD hS hl
    unfold fX5_layOut_30 at hf
    refine lv_iload_n hx hb dX5_layOut_30 rfl (lv_at hl 3 rfl) ?_
    refine lv_aload_n hx hb dX5_layOut_31 rfl (lv_at hl 0 rfl) ?_
    refine mm_get C0 hP iw_X5 0 rfl rfl 1 (by decide) fl_X5_44 rfl dX5_layOut_32 ?_
    refine lv_icmp_ge (tgt := 75) hx hb dX5_layOut_35 (by decide) (fun c_2 => ?_) (fun c_2 => ?_)
    · have hf := mm_ip hf c_2
      obtain ⟨y_3, ey_3⟩ : ∃ z : Int32, z = x2 + (1 : Int32) := ⟨_, rfl⟩
      have hf := mm_nms hf ey_3
      refine lv_iinc (v := y_3) (lv' := [(2, .int y_3), (0, .ref (a 0)), (1, .int x1), (3, .int x3)]) hx hb dX5_layOut_75 hl (k := 2) rfl (by rw [ey_3]; rfl) (by decide) rfl (fun ls hl => ?_)
      refine lv_goto (tgt := 20) hx hb dX5_layOut_78 (by decide) ?_
      exact hk_20 _ _ _ _ _ _ _ _ _ _ H locs ls hf hP hD hS (lv_sub hl [1, 2, 0] rfl)
    · have hf := mm_in hf c_2
      refine lv_aload_n hx hb dX5_layOut_38 rfl (lv_at hl 0 rfl) ?_
      refine mm_get C0 hP iw_X5 0 rfl rfl 7 (by decide) fl_X5_9 rfl dX5_layOut_39 ?_
      refine lv_iload_n hx hb dX5_layOut_42 rfl (lv_at hl 1 rfl) ?_
      refine lv_iload_n hx hb dX5_layOut_43 rfl (lv_at hl 2 rfl) ?_
      obtain ⟨h_4, hf⟩ := mm_cks hf
      refine mm_iast C0 hP hD hS 1 rfl h_4 dX5_layOut_44 (w2 := (wd_X5 cI cL cS cH a v_rows v_cols v_high v_wide v_folds v_wrong v_more (mm_is v_rowOf x1 x2) v_colOf v_below v_face v_worn v_last v_bend v_tall)) rfl (fun H locs hP hD hS => ?_)
      generalize el_5 : (mm_is v_rowOf x1 x2) = l_5 at hP hD
      have hf := mm_nms hf el_5.symm
      refine lv_aload_n hx hb dX5_layOut_45 rfl (lv_at hl 0 rfl) ?_
      refine mm_get C0 hP iw_X5 0 rfl rfl 8 (by decide) fl_X5_15 rfl dX5_layOut_46 ?_
      refine lv_iload_n hx hb dX5_layOut_49 rfl (lv_at hl 1 rfl) ?_
      refine lv_iload_n hx hb dX5_layOut_50 rfl (lv_at hl 3 rfl) ?_
      obtain ⟨h_6, hf⟩ := mm_cks hf
      refine mm_iast C0 hP hD hS 2 rfl h_6 dX5_layOut_51 (w2 := (wd_X5 cI cL cS cH a v_rows v_cols v_high v_wide v_folds v_wrong v_more l_5 (mm_is v_colOf x1 x3) v_below v_face v_worn v_last v_bend v_tall)) rfl (fun H locs hP hD hS => ?_)
      generalize el_7 : (mm_is v_colOf x1 x3) = l_7 at hP hD
      have hf := mm_nms hf el_7.symm
      refine lv_aload_n hx hb dX5_layOut_52 rfl (lv_at hl 0 rfl) ?_
      refine mm_get C0 hP iw_X5 0 rfl rfl 9 (by decide) fl_X5_18 rfl dX5_layOut_53 ?_
      refine lv_iload_n hx hb dX5_layOut_56 rfl (lv_at hl 1 rfl) ?_
      refine lv_iconst (v := 0) hx hb dX5_layOut_57 (by decide) ?_
      obtain ⟨h_8, hf⟩ := mm_cks hf
      refine mm_iast C0 hP hD hS 3 rfl h_8 dX5_layOut_58 (w2 := (wd_X5 cI cL cS cH a v_rows v_cols v_high v_wide v_folds v_wrong v_more l_5 l_7 (mm_is v_below x1 (0 : Int32)) v_face v_worn v_last v_bend v_tall)) rfl (fun H locs hP hD hS => ?_)
      generalize el_9 : (mm_is v_below x1 (0 : Int32)) = l_9 at hP hD
      have hf := mm_nms hf el_9.symm
      refine lv_aload_n hx hb dX5_layOut_59 rfl (lv_at hl 0 rfl) ?_
      refine mm_get C0 hP iw_X5 0 rfl rfl 10 (by decide) fl_X5_21 rfl dX5_layOut_60 ?_
      refine lv_iload_n hx hb dX5_layOut_63 rfl (lv_at hl 1 rfl) ?_
      refine lv_iconst (v := 0) hx hb dX5_layOut_64 (by decide) ?_
      obtain ⟨h_10, hf⟩ := mm_cks hf
      refine mm_iast C0 hP hD hS 4 rfl h_10 dX5_layOut_65 (w2 := (wd_X5 cI cL cS cH a v_rows v_cols v_high v_wide v_folds v_wrong v_more l_5 l_7 l_9 (mm_is v_face x1 (0 : Int32)) v_worn v_last v_bend v_tall)) rfl (fun H locs hP hD hS => ?_)
      generalize el_11 : (mm_is v_face x1 (0 : Int32)) = l_11 at hP hD
      have hf := mm_nms hf el_11.symm
      obtain ⟨y_12, ey_12⟩ : ∃ z : Int32, z = x1 + (1 : Int32) := ⟨_, rfl⟩
      have hf := mm_nms hf ey_12
      refine lv_iinc (v := y_12) (lv' := [(1, .int y_12), (0, .ref (a 0)), (2, .int x2), (3, .int x3)]) hx hb dX5_layOut_66 hl (k := 1) rfl (by rw [ey_12]; rfl) (by decide) rfl (fun ls hl => ?_)
      obtain ⟨y_13, ey_13⟩ : ∃ z : Int32, z = x3 + (1 : Int32) := ⟨_, rfl⟩
      have hf := mm_nms hf ey_13
      refine lv_iinc (v := y_13) (lv' := [(3, .int y_13), (1, .int y_12), (0, .ref (a 0)), (2, .int x2)]) hx hb dX5_layOut_69 hl (k := 3) rfl (by rw [ey_13]; rfl) (by decide) rfl (fun ls hl => ?_)
      refine lv_goto (tgt := 30) hx hb dX5_layOut_72 (by decide) ?_
      exact ih _ _ _ _ _ _ _ _ _ _ _ H locs ls hf hP hD hS (lv_sub hl [2, 1, 3, 0] rfl)

def fX5_layOut_20 (N : Nat)  : Nat → Int32 → Int32 → Int32 → Int32 → Int32 → Int32 → List Int32 → List Int32 → List Int32 → List Int32 → Option (Int32 × Int32 × List Int32 × List Int32 × List Int32 × List Int32)
  | 0 => fun _ _ _ _ _ _ _ _ _ _ => none
  | n + 1 => fun x1 x2 v_rows v_cols v_high v_wide v_rowOf v_colOf v_below v_face =>
    if v_rows ≤ x2 then
    (some (v_high, v_wide, v_rowOf, v_colOf, v_below, v_face))
    else (fX5_layOut_30 N (fX5_layOut_20 N n) N x1 x2 (0 : Int32) v_rows v_cols v_high v_wide v_rowOf v_colOf v_below v_face)

set_option maxHeartbeats 4000000 in
set_option maxRecDepth 100000 in
theorem tX5_layOut_20 {p : Program} {l : Launch} {e : Env} {s : State} {m : MethodId} {args : Array Value} {below : List Frame} {meth : Method} {c : Code} {D : va_G} {cI cL cS cH : ClassId} {A : Nat → Prop} {d : Nat} {a : Nat → Nat} (hd : 1 ≤ d) (C0 : mm_Cx p s m args meth c RX5 cX5_layOut 4 none D (mm_T cI cL cS cH) A) (hA : ∀ q, s.heap.size ≤ q → A q) {v_folds : Int32} {v_wrong : Int32} {v_more : Int32} {v_worn : List Int32} {v_last : List Int32} {v_bend : List Int32} {v_tall : List Int32} {w_high : Int32} {w_wide : Int32} {w_rowOf : List Int32} {w_colOf : List Int32} {w_below : List Int32} {w_face : List Int32} (N : Nat)  : ∀ (n : Nat), ∀ (x1 : Int32) (x2 : Int32) (v_rows : Int32) (v_cols : Int32) (v_high : Int32) (v_wide : Int32) (v_rowOf : List Int32) (v_colOf : List Int32) (v_below : List Int32) (v_face : List Int32) (H : Heap) (locs : List Loc) (ls : Array Slot), fX5_layOut_20 N n x1 x2 v_rows v_cols v_high v_wide v_rowOf v_colOf v_below v_face = some (w_high, w_wide, w_rowOf, w_colOf, w_below, w_face) → va_P D mm_cl (wd_X5 cI cL cS cH a v_rows v_cols v_high v_wide v_folds v_wrong v_more v_rowOf v_colOf v_below v_face v_worn v_last v_bend v_tall) H → va_D A (wd_X5 cI cL cS cH a v_rows v_cols v_high v_wide v_folds v_wrong v_more v_rowOf v_colOf v_below v_face v_worn v_last v_bend v_tall) → va_S A s.heap H locs → lv_has ls 4 [(0, .ref (a 0)), (1, .int x1), (2, .int x2)] → W p l e (mm_rr d) s m args below meth c H locs 0 0 (mm_Z below D A (wd_X5 cI cL cS cH a v_rows v_cols w_high w_wide v_folds v_wrong v_more w_rowOf w_colOf w_below w_face v_worn v_last v_bend v_tall) none args s) (F0 m 20 ls []) := by
  obtain ⟨hx, hb, hml, hown, hts, hr, hlocks, hK, hSt⟩ := id C0
  intro n
  induction n with
  | zero =>
    intro x1 x2 v_rows v_cols v_high v_wide v_rowOf v_colOf v_below v_face H locs ls hf
    cases (show none = some _ from hf)
  | succ n ih =>
    intro x1 x2 v_rows v_cols v_high v_wide v_rowOf v_colOf v_below v_face H locs ls hf hP hD hS hl
    unfold fX5_layOut_20 at hf
    refine lv_iload_n hx hb dX5_layOut_20 rfl (lv_at hl 2 rfl) ?_
    refine lv_aload_n hx hb dX5_layOut_21 rfl (lv_at hl 0 rfl) ?_
    refine mm_get C0 hP iw_X5 0 rfl rfl 0 (by decide) fl_X5_40 rfl dX5_layOut_22 ?_
    refine lv_icmp_ge (tgt := 81) hx hb dX5_layOut_25 (by decide) (fun c_1 => ?_) (fun c_1 => ?_)
    · have hf := mm_ip hf c_1
      apply mm_sub6 hf
      exact mm_vret C0 hP hD hS dX5_layOut_81
    · have hf := mm_in hf c_1
      refine lv_iconst (v := 0) hx hb dX5_layOut_28 (by decide) ?_
      refine lv_istore_n (lv' := [(3, .int (0 : Int32)), (0, .ref (a 0)), (1, .int x1), (2, .int x2)]) hx hb dX5_layOut_29 rfl hl (by decide) rfl (fun ls hl => ?_)
      exact tX5_layOut_30 hd C0 hA N ih N _ _ _ _ _ _ _ _ _ _ _ H locs ls hf hP hD hS (lv_sub hl [1, 2, 3, 0] rfl)

def fX5_layOut (N : Nat) (v_rows : Int32) (v_cols : Int32) (v_high : Int32) (v_wide : Int32) (v_rowOf : List Int32) (v_colOf : List Int32) (v_below : List Int32) (v_face : List Int32) : Option (Int32 × Int32 × List Int32 × List Int32 × List Int32 × List Int32) :=
    fX5_layOut_20 N N (0 : Int32) (0 : Int32) v_rows v_cols v_rows v_cols v_rowOf v_colOf v_below v_face

set_option maxHeartbeats 4000000 in
set_option maxRecDepth 100000 in
theorem ctX5_layOut {l : Launch} {D : va_G} {cI cL cS cH : ClassId} {a : Nat → Nat}  {v_rows : Int32} {v_cols : Int32} {v_high : Int32} {v_wide : Int32} {v_folds : Int32} {v_wrong : Int32} {v_more : Int32} {v_rowOf : List Int32} {v_colOf : List Int32} {v_below : List Int32} {v_face : List Int32} {v_worn : List Int32} {v_last : List Int32} {v_bend : List Int32} {v_tall : List Int32} {w_high : Int32} {w_wide : Int32} {w_rowOf : List Int32} {w_colOf : List Int32} {w_below : List Int32} {w_face : List Int32} {N d : Nat} (hd : 1 ≤ d) (hf : fX5_layOut N v_rows v_cols v_high v_wide v_rowOf v_colOf v_below v_face = some (w_high, w_wide, w_rowOf, w_colOf, w_below, w_face)) : mm_Ct l yX5_layOut cX5_layOut 4 none d D (mm_T cI cL cS cH) [.ref (a 0)] (wd_X5 cI cL cS cH a v_rows v_cols v_high v_wide v_folds v_wrong v_more v_rowOf v_colOf v_below v_face v_worn v_last v_bend v_tall) (wd_X5 cI cL cS cH a v_rows v_cols w_high w_wide v_folds v_wrong v_more w_rowOf w_colOf w_below w_face v_worn v_last v_bend v_tall) none := by
  refine mm_of (by decide) (Nat.le_of_ble_eq_true rfl) ?_
  intro p e s m args below meth c A H locs ls C0 hP hD hA hS hl
  have C0 : mm_Cx p s m args meth c RX5 cX5_layOut 4 none D (mm_T cI cL cS cH) A := C0
  obtain ⟨hx, hb, hml, hown, hts, hr, hlocks, hK, hSt⟩ := id C0
  have hl : lv_has ls 4 [(0, .ref (a 0))] := hl
  unfold fX5_layOut at hf
  refine lv_aload_n hx hb dX5_layOut_0 rfl (lv_at hl 0 rfl) ?_
  refine lv_aload_n hx hb dX5_layOut_1 rfl (lv_at hl 0 rfl) ?_
  refine mm_get C0 hP iw_X5 0 rfl rfl 0 (by decide) fl_X5_40 rfl dX5_layOut_2 ?_
  refine mm_put C0 hP hD hS iw_X5 tyX5 tyX5_ok nmX5 0 rfl rfl 2 (by decide) fl_X5_68 rfl rfl rfl (Nat.le_of_ble_eq_true rfl) dX5_layOut_5 (w2 := (wd_X5 cI cL cS cH a v_rows v_cols v_rows v_wide v_folds v_wrong v_more v_rowOf v_colOf v_below v_face v_worn v_last v_bend v_tall)) rfl (fun H locs hP hD hS => ?_)
  refine lv_aload_n hx hb dX5_layOut_8 rfl (lv_at hl 0 rfl) ?_
  refine lv_aload_n hx hb dX5_layOut_9 rfl (lv_at hl 0 rfl) ?_
  refine mm_get C0 hP iw_X5 0 rfl rfl 1 (by decide) fl_X5_44 rfl dX5_layOut_10 ?_
  refine mm_put C0 hP hD hS iw_X5 tyX5 tyX5_ok nmX5 0 rfl rfl 3 (by decide) fl_X5_71 rfl rfl rfl (Nat.le_of_ble_eq_true rfl) dX5_layOut_13 (w2 := (wd_X5 cI cL cS cH a v_rows v_cols v_rows v_cols v_folds v_wrong v_more v_rowOf v_colOf v_below v_face v_worn v_last v_bend v_tall)) rfl (fun H locs hP hD hS => ?_)
  refine lv_iconst (v := 0) hx hb dX5_layOut_16 (by decide) ?_
  refine lv_istore_n (lv' := [(1, .int (0 : Int32)), (0, .ref (a 0))]) hx hb dX5_layOut_17 rfl hl (by decide) rfl (fun ls hl => ?_)
  refine lv_iconst (v := 0) hx hb dX5_layOut_18 (by decide) ?_
  refine lv_istore_n (lv' := [(2, .int (0 : Int32)), (1, .int (0 : Int32)), (0, .ref (a 0))]) hx hb dX5_layOut_19 rfl hl (by decide) rfl (fun ls hl => ?_)
  exact tX5_layOut_20 hd C0 hA N  N _ _ _ _ _ _ _ _ _ _ H locs ls hf hP hD hS (lv_sub hl [2, 1, 0] rfl)

theorem nb_dJ7_fill_53178_0 : bls_w cJ7_fill_53178 [(0, [3]), (1, [61]), (2, [42]), (3, [190]), (4, [62]), (5, [28]), (6, [29]), (7, [162, 0, 13]), (10, [42]), (11, [28]), (12, [27]), (13, [79])] := bls_of (by decide +kernel)
theorem dJ7_fill_53178_0 : decode cJ7_fill_53178 0 = .ok (.iconst 0, 1) := op_3 nb_dJ7_fill_53178_0.1
theorem dJ7_fill_53178_1 : decode cJ7_fill_53178 1 = .ok (.istore_n 2, 1) := op_61 nb_dJ7_fill_53178_0.2.1
theorem dJ7_fill_53178_2 : decode cJ7_fill_53178 2 = .ok (.aload_n 0, 1) := op_42 nb_dJ7_fill_53178_0.2.2.1
theorem dJ7_fill_53178_3 : decode cJ7_fill_53178 3 = .ok (.arraylength, 1) := op_190 nb_dJ7_fill_53178_0.2.2.2.1
theorem dJ7_fill_53178_4 : decode cJ7_fill_53178 4 = .ok (.istore_n 3, 1) := op_62 nb_dJ7_fill_53178_0.2.2.2.2.1
theorem dJ7_fill_53178_5 : decode cJ7_fill_53178 5 = .ok (.iload_n 2, 1) := op_28 nb_dJ7_fill_53178_0.2.2.2.2.2.1
theorem dJ7_fill_53178_6 : decode cJ7_fill_53178 6 = .ok (.iload_n 3, 1) := op_29 nb_dJ7_fill_53178_0.2.2.2.2.2.2.1
set_option maxRecDepth 100000 in
theorem dJ7_fill_53178_7 : decode cJ7_fill_53178 7 = .ok (.if_icmp .ge 13, 3) := (op_162 nb_dJ7_fill_53178_0.2.2.2.2.2.2.2.1).trans rfl
theorem dJ7_fill_53178_10 : decode cJ7_fill_53178 10 = .ok (.aload_n 0, 1) := op_42 nb_dJ7_fill_53178_0.2.2.2.2.2.2.2.2.1
theorem dJ7_fill_53178_11 : decode cJ7_fill_53178 11 = .ok (.iload_n 2, 1) := op_28 nb_dJ7_fill_53178_0.2.2.2.2.2.2.2.2.2.1
theorem dJ7_fill_53178_12 : decode cJ7_fill_53178 12 = .ok (.iload_n 1, 1) := op_27 nb_dJ7_fill_53178_0.2.2.2.2.2.2.2.2.2.2.1
theorem dJ7_fill_53178_13 : decode cJ7_fill_53178 13 = .ok (.iastore, 1) := op_79 nb_dJ7_fill_53178_0.2.2.2.2.2.2.2.2.2.2.2.1
theorem nb_dJ7_fill_53178_14 : bls_w cJ7_fill_53178 [(14, [132, 2, 1]), (17, [167, 255, 244]), (20, [177])] := bls_of (by decide +kernel)
set_option maxRecDepth 100000 in
theorem dJ7_fill_53178_14 : decode cJ7_fill_53178 14 = .ok (.iinc 2 1, 3) := (op_132 nb_dJ7_fill_53178_14.1).trans rfl
set_option maxRecDepth 100000 in
theorem dJ7_fill_53178_17 : decode cJ7_fill_53178 17 = .ok (.goto (-12), 3) := (op_167 nb_dJ7_fill_53178_14.2.1).trans rfl
theorem dJ7_fill_53178_20 : decode cJ7_fill_53178 20 = .ok (.return_, 1) := op_177 nb_dJ7_fill_53178_14.2.2.1
def fJ7_fill_53178_5 (N : Nat)  : Nat → Int32 → Int32 → Int32 → List Int32 → Option (List Int32)
  | 0 => fun _ _ _ _ => none
  | n + 1 => fun x1 x2 x3 p0_row =>
    if x3 ≤ x2 then
    (some (p0_row))
    else (mm_ck (mm_inb x2 p0_row.length) (mm_nm (mm_is p0_row x2 x1) (fun (l_4 : List Int32) =>
    mm_nm (x2 + (1 : Int32)) (fun (y_5 : Int32) =>
    fJ7_fill_53178_5 N n x1 y_5 x3 l_4))))

set_option maxHeartbeats 4000000 in
set_option maxRecDepth 100000 in
theorem tJ7_fill_53178_5 {p : Program} {l : Launch} {e : Env} {s : State} {m : MethodId} {args : Array Value} {below : List Frame} {meth : Method} {c : Code} {D : va_G} {cI cL cS cH : ClassId} {A : Nat → Prop} {d : Nat} {a : Nat → Nat} (hd : 1 ≤ d) (C0 : mm_Cx p s m args meth c RJ7 cJ7_fill_53178 4 none D (mm_T cI cL cS cH) A) (hA : ∀ q, s.heap.size ≤ q → A q)  {wp0_row : List Int32} (N : Nat)  : ∀ (n : Nat), ∀ (x1 : Int32) (x2 : Int32) (x3 : Int32) (p0_row : List Int32) (H : Heap) (locs : List Loc) (ls : Array Slot), fJ7_fill_53178_5 N n x1 x2 x3 p0_row = some wp0_row → va_P D mm_cl ([(a 0, mm_li cI p0_row)]) H → va_D A ([(a 0, mm_li cI p0_row)]) → va_S A s.heap H locs → lv_has ls 4 [(0, .ref (a 0)), (1, .int x1), (2, .int x2), (3, .int x3)] → W p l e (mm_rr d) s m args below meth c H locs 0 0 (mm_Z below D A ([(a 0, mm_li cI wp0_row)]) none args s) (F0 m 5 ls []) := by
  obtain ⟨hx, hb, hml, hown, hts, hr, hlocks, hK, hSt⟩ := id C0
  intro n
  induction n with
  | zero =>
    intro x1 x2 x3 p0_row H locs ls hf
    cases (show none = some _ from hf)
  | succ n ih =>
    intro x1 x2 x3 p0_row H locs ls hf hP hD hS hl
    unfold fJ7_fill_53178_5 at hf
    refine lv_iload_n hx hb dJ7_fill_53178_5 rfl (lv_at hl 2 rfl) ?_
    refine lv_iload_n hx hb dJ7_fill_53178_6 rfl (lv_at hl 3 rfl) ?_
    refine lv_icmp_ge (tgt := 20) hx hb dJ7_fill_53178_7 (by decide) (fun c_2 => ?_) (fun c_2 => ?_)
    · have hf := mm_ip hf c_2
      obtain rfl := mm_inj1 hf
      exact mm_vret C0 hP hD hS dJ7_fill_53178_20
    · have hf := mm_in hf c_2
      refine lv_aload_n hx hb dJ7_fill_53178_10 rfl (lv_at hl 0 rfl) ?_
      refine lv_iload_n hx hb dJ7_fill_53178_11 rfl (lv_at hl 2 rfl) ?_
      refine lv_iload_n hx hb dJ7_fill_53178_12 rfl (lv_at hl 1 rfl) ?_
      obtain ⟨h_3, hf⟩ := mm_cks hf
      refine mm_iast C0 hP hD hS 0 rfl h_3 dJ7_fill_53178_13 (w2 := ([(a 0, mm_li cI (mm_is p0_row x2 x1))])) rfl (fun H locs hP hD hS => ?_)
      generalize el_4 : (mm_is p0_row x2 x1) = l_4 at hP hD
      have hf := mm_nms hf el_4.symm
      obtain ⟨y_5, ey_5⟩ : ∃ z : Int32, z = x2 + (1 : Int32) := ⟨_, rfl⟩
      have hf := mm_nms hf ey_5
      refine lv_iinc (v := y_5) (lv' := [(2, .int y_5), (0, .ref (a 0)), (1, .int x1), (3, .int x3)]) hx hb dJ7_fill_53178_14 hl (k := 2) rfl (by rw [ey_5]; rfl) (by decide) rfl (fun ls hl => ?_)
      refine lv_goto (tgt := 5) hx hb dJ7_fill_53178_17 (by decide) ?_
      exact ih _ _ _ _ H locs ls hf hP hD hS (lv_sub hl [1, 2, 0, 3] rfl)

def fJ7_fill_53178 (N : Nat) (x1 : Int32) (p0_row : List Int32) : Option (List Int32) :=
    mm_nm ((Int32.ofNat p0_row.length)) (fun (y_1 : Int32) =>
    fJ7_fill_53178_5 N N x1 (0 : Int32) y_1 p0_row)

set_option maxHeartbeats 4000000 in
set_option maxRecDepth 100000 in
theorem ctJ7_fill_53178 {l : Launch} {D : va_G} {cI cL cS cH : ClassId} {a : Nat → Nat} {x1 : Int32} {p0_row : List Int32} {wp0_row : List Int32} {N d : Nat} (hd : 1 ≤ d) (hf : fJ7_fill_53178 N x1 p0_row = some wp0_row) : mm_Ct l yJ7_fill_53178 cJ7_fill_53178 4 none d D (mm_T cI cL cS cH) [.ref (a 0), .int x1] ([(a 0, mm_li cI p0_row)]) ([(a 0, mm_li cI wp0_row)]) none := by
  refine mm_of (by decide) (Nat.le_of_ble_eq_true rfl) ?_
  intro p e s m args below meth c A H locs ls C0 hP hD hA hS hl
  have C0 : mm_Cx p s m args meth c RJ7 cJ7_fill_53178 4 none D (mm_T cI cL cS cH) A := C0
  obtain ⟨hx, hb, hml, hown, hts, hr, hlocks, hK, hSt⟩ := id C0
  have hl : lv_has ls 4 [(0, .ref (a 0)), (1, .int x1)] := hl
  unfold fJ7_fill_53178 at hf
  refine lv_iconst (v := 0) hx hb dJ7_fill_53178_0 (by decide) ?_
  refine lv_istore_n (lv' := [(2, .int (0 : Int32)), (0, .ref (a 0)), (1, .int x1)]) hx hb dJ7_fill_53178_1 rfl hl (by decide) rfl (fun ls hl => ?_)
  refine lv_aload_n hx hb dJ7_fill_53178_2 rfl (lv_at hl 1 rfl) ?_
  refine mm_ilen C0 hP 0 rfl dJ7_fill_53178_3 ?_
  refine lv_topi (fun y_1 ey_1 => ?_)
  have hf := mm_nms hf ey_1
  refine lv_istore_n (lv' := [(3, .int y_1), (2, .int (0 : Int32)), (0, .ref (a 0)), (1, .int x1)]) hx hb dJ7_fill_53178_4 rfl hl (by decide) rfl (fun ls hl => ?_)
  exact tJ7_fill_53178_5 hd C0 hA N  N _ _ _ _ H locs ls hf hP hD hS (lv_sub hl [2, 3, 1, 0] rfl)

theorem nb_dX5_renew_0 : bls_w cX5_renew [(0, [42]), (1, [27]), (2, [181, 0, 40]), (5, [42]), (6, [28]), (7, [181, 0, 44]), (10, [42]), (11, [180, 0, 24]), (14, [3]), (15, [184, 0, 47]), (18, [42]), (19, [180, 0, 27])] := bls_of (by decide +kernel)
theorem dX5_renew_0 : decode cX5_renew 0 = .ok (.aload_n 0, 1) := op_42 nb_dX5_renew_0.1
theorem dX5_renew_1 : decode cX5_renew 1 = .ok (.iload_n 1, 1) := op_27 nb_dX5_renew_0.2.1
set_option maxRecDepth 100000 in
theorem dX5_renew_2 : decode cX5_renew 2 = .ok (.putfield 40, 3) := (op_181 nb_dX5_renew_0.2.2.1).trans rfl
theorem dX5_renew_5 : decode cX5_renew 5 = .ok (.aload_n 0, 1) := op_42 nb_dX5_renew_0.2.2.2.1
theorem dX5_renew_6 : decode cX5_renew 6 = .ok (.iload_n 2, 1) := op_28 nb_dX5_renew_0.2.2.2.2.1
set_option maxRecDepth 100000 in
theorem dX5_renew_7 : decode cX5_renew 7 = .ok (.putfield 44, 3) := (op_181 nb_dX5_renew_0.2.2.2.2.2.1).trans rfl
theorem dX5_renew_10 : decode cX5_renew 10 = .ok (.aload_n 0, 1) := op_42 nb_dX5_renew_0.2.2.2.2.2.2.1
set_option maxRecDepth 100000 in
theorem dX5_renew_11 : decode cX5_renew 11 = .ok (.getfield 24, 3) := (op_180 nb_dX5_renew_0.2.2.2.2.2.2.2.1).trans rfl
theorem dX5_renew_14 : decode cX5_renew 14 = .ok (.iconst 0, 1) := op_3 nb_dX5_renew_0.2.2.2.2.2.2.2.2.1
set_option maxRecDepth 100000 in
theorem dX5_renew_15 : decode cX5_renew 15 = .ok (.invokestatic 47, 3) := (op_184 nb_dX5_renew_0.2.2.2.2.2.2.2.2.2.1).trans rfl
theorem dX5_renew_18 : decode cX5_renew 18 = .ok (.aload_n 0, 1) := op_42 nb_dX5_renew_0.2.2.2.2.2.2.2.2.2.2.1
set_option maxRecDepth 100000 in
theorem dX5_renew_19 : decode cX5_renew 19 = .ok (.getfield 27, 3) := (op_180 nb_dX5_renew_0.2.2.2.2.2.2.2.2.2.2.2.1).trans rfl
theorem nb_dX5_renew_22 : bls_w cX5_renew [(22, [3]), (23, [184, 0, 47]), (26, [42]), (27, [182, 0, 53]), (30, [42]), (31, [182, 0, 56]), (34, [177])] := bls_of (by decide +kernel)
theorem dX5_renew_22 : decode cX5_renew 22 = .ok (.iconst 0, 1) := op_3 nb_dX5_renew_22.1
set_option maxRecDepth 100000 in
theorem dX5_renew_23 : decode cX5_renew 23 = .ok (.invokestatic 47, 3) := (op_184 nb_dX5_renew_22.2.1).trans rfl
theorem dX5_renew_26 : decode cX5_renew 26 = .ok (.aload_n 0, 1) := op_42 nb_dX5_renew_22.2.2.1
set_option maxRecDepth 100000 in
theorem dX5_renew_27 : decode cX5_renew 27 = .ok (.invokevirtual 53, 3) := (op_182 nb_dX5_renew_22.2.2.2.1).trans rfl
theorem dX5_renew_30 : decode cX5_renew 30 = .ok (.aload_n 0, 1) := op_42 nb_dX5_renew_22.2.2.2.2.1
set_option maxRecDepth 100000 in
theorem dX5_renew_31 : decode cX5_renew 31 = .ok (.invokevirtual 56, 3) := (op_182 nb_dX5_renew_22.2.2.2.2.2.1).trans rfl
theorem dX5_renew_34 : decode cX5_renew 34 = .ok (.return_, 1) := op_177 nb_dX5_renew_22.2.2.2.2.2.2.1
def fX5_renew (N : Nat) (x1 : Int32) (x2 : Int32) (v_rows : Int32) (v_cols : Int32) (v_high : Int32) (v_wide : Int32) (v_folds : Int32) (v_wrong : Int32) (v_more : Int32) (v_rowOf : List Int32) (v_colOf : List Int32) (v_below : List Int32) (v_face : List Int32) (v_worn : List Int32) (v_last : List Int32) : Option (Int32 × Int32 × Int32 × Int32 × Int32 × Int32 × Int32 × List Int32 × List Int32 × List Int32 × List Int32 × List Int32 × List Int32) :=
    mm_bd1 (fJ7_fill_53178 N (0 : Int32) v_worn) (fun (w_1 : List Int32) =>
    mm_bd1 (fJ7_fill_53178 N (0 : Int32) v_last) (fun (w_3 : List Int32) =>
    mm_bd3 (fX5_forgetLed N v_folds v_wrong v_more) (fun (w_5 : Int32) (w_6 : Int32) (w_7 : Int32) =>
    mm_bd6 (fX5_layOut N x1 x2 v_high v_wide v_rowOf v_colOf v_below v_face) (fun (w_9 : Int32) (w_10 : Int32) (w_11 : List Int32) (w_12 : List Int32) (w_13 : List Int32) (w_14 : List Int32) =>
    some (x1, x2, w_9, w_10, w_5, w_6, w_7, w_11, w_12, w_13, w_14, w_1, w_3)))))

set_option maxHeartbeats 4000000 in
set_option maxRecDepth 100000 in
theorem ctX5_renew {l : Launch} {D : va_G} {cI cL cS cH : ClassId} {a : Nat → Nat} {x1 : Int32} {x2 : Int32} {v_rows : Int32} {v_cols : Int32} {v_high : Int32} {v_wide : Int32} {v_folds : Int32} {v_wrong : Int32} {v_more : Int32} {v_rowOf : List Int32} {v_colOf : List Int32} {v_below : List Int32} {v_face : List Int32} {v_worn : List Int32} {v_last : List Int32} {v_bend : List Int32} {v_tall : List Int32} {w_rows : Int32} {w_cols : Int32} {w_high : Int32} {w_wide : Int32} {w_folds : Int32} {w_wrong : Int32} {w_more : Int32} {w_rowOf : List Int32} {w_colOf : List Int32} {w_below : List Int32} {w_face : List Int32} {w_worn : List Int32} {w_last : List Int32} {N d : Nat} (hd : 2 ≤ d) (hf : fX5_renew N x1 x2 v_rows v_cols v_high v_wide v_folds v_wrong v_more v_rowOf v_colOf v_below v_face v_worn v_last = some (w_rows, w_cols, w_high, w_wide, w_folds, w_wrong, w_more, w_rowOf, w_colOf, w_below, w_face, w_worn, w_last)) : mm_Ct l yX5_renew cX5_renew 3 none d D (mm_T cI cL cS cH) [.ref (a 0), .int x1, .int x2] (wd_X5 cI cL cS cH a v_rows v_cols v_high v_wide v_folds v_wrong v_more v_rowOf v_colOf v_below v_face v_worn v_last v_bend v_tall) (wd_X5 cI cL cS cH a w_rows w_cols w_high w_wide w_folds w_wrong w_more w_rowOf w_colOf w_below w_face w_worn w_last v_bend v_tall) none := by
  refine mm_of (by decide) (Nat.le_of_ble_eq_true rfl) ?_
  intro p e s m args below meth c A H locs ls C0 hP hD hA hS hl
  have C0 : mm_Cx p s m args meth c RX5 cX5_renew 3 none D (mm_T cI cL cS cH) A := C0
  obtain ⟨hx, hb, hml, hown, hts, hr, hlocks, hK, hSt⟩ := id C0
  have hl : lv_has ls 3 [(0, .ref (a 0)), (1, .int x1), (2, .int x2)] := hl
  unfold fX5_renew at hf
  refine lv_aload_n hx hb dX5_renew_0 rfl (lv_at hl 0 rfl) ?_
  refine lv_iload_n hx hb dX5_renew_1 rfl (lv_at hl 1 rfl) ?_
  refine mm_put C0 hP hD hS iw_X5 tyX5 tyX5_ok nmX5 0 rfl rfl 0 (by decide) fl_X5_40 rfl rfl rfl (Nat.le_of_ble_eq_true rfl) dX5_renew_2 (w2 := (wd_X5 cI cL cS cH a x1 v_cols v_high v_wide v_folds v_wrong v_more v_rowOf v_colOf v_below v_face v_worn v_last v_bend v_tall)) rfl (fun H locs hP hD hS => ?_)
  refine lv_aload_n hx hb dX5_renew_5 rfl (lv_at hl 0 rfl) ?_
  refine lv_iload_n hx hb dX5_renew_6 rfl (lv_at hl 2 rfl) ?_
  refine mm_put C0 hP hD hS iw_X5 tyX5 tyX5_ok nmX5 0 rfl rfl 1 (by decide) fl_X5_44 rfl rfl rfl (Nat.le_of_ble_eq_true rfl) dX5_renew_7 (w2 := (wd_X5 cI cL cS cH a x1 x2 v_high v_wide v_folds v_wrong v_more v_rowOf v_colOf v_below v_face v_worn v_last v_bend v_tall)) rfl (fun H locs hP hD hS => ?_)
  refine lv_aload_n hx hb dX5_renew_10 rfl (lv_at hl 0 rfl) ?_
  refine mm_get C0 hP iw_X5 0 rfl rfl 11 (by decide) fl_X5_24 rfl dX5_renew_11 ?_
  refine lv_iconst (v := 0) hx hb dX5_renew_14 (by decide) ?_
  obtain ⟨w_1, hc_2, hf⟩ := mm_bd1s hf
  refine mm_callT (w2 := (wd_X5 cI cL cS cH a x1 x2 v_high v_wide v_folds v_wrong v_more v_rowOf v_colOf v_below v_face w_1 v_last v_bend v_tall)) (rest := []) C0 lk_X5_47 (ctJ7_fill_53178 (a := (fun k => a (k + 5))) (d := d - 1) (by omega) hc_2) (by omega) rfl hl.1 rfl (mm_cat rfl) dX5_renew_15 hP hD hA hS [false, false, false, false, false, true, false, false, false] rfl rfl rfl rfl (fun H locs hP hD hS => ?_)
  refine W.eq (g2 := F0 m 18 ls []) rfl ?_
  refine lv_aload_n hx hb dX5_renew_18 rfl (lv_at hl 0 rfl) ?_
  refine mm_get C0 hP iw_X5 0 rfl rfl 12 (by decide) fl_X5_27 rfl dX5_renew_19 ?_
  refine lv_iconst (v := 0) hx hb dX5_renew_22 (by decide) ?_
  obtain ⟨w_3, hc_4, hf⟩ := mm_bd1s hf
  refine mm_callT (w2 := (wd_X5 cI cL cS cH a x1 x2 v_high v_wide v_folds v_wrong v_more v_rowOf v_colOf v_below v_face w_1 w_3 v_bend v_tall)) (rest := []) C0 lk_X5_47 (ctJ7_fill_53178 (a := (fun k => a (k + 6))) (d := d - 1) (by omega) hc_4) (by omega) rfl hl.1 rfl (mm_cat rfl) dX5_renew_23 hP hD hA hS [false, false, false, false, false, false, true, false, false] rfl rfl rfl rfl (fun H locs hP hD hS => ?_)
  refine W.eq (g2 := F0 m 26 ls []) rfl ?_
  refine lv_aload_n hx hb dX5_renew_26 rfl (lv_at hl 0 rfl) ?_
  obtain ⟨w_5, w_6, w_7, hc_8, hf⟩ := mm_bd3s hf
  refine mm_callVF (q0 := 0) (ci := 5) (rest := []) C0 lk_X5_53 (ctX5_forgetLed (a := a) (d := d - 1) (by omega) hc_8) (by omega) rfl hl.1 rfl (mm_cat rfl) dX5_renew_27 hP hD hA hS rfl rfl (fun H locs hP hD hS => ?_)
  refine W.eq (g2 := F0 m 30 ls []) rfl ?_
  refine lv_aload_n hx hb dX5_renew_30 rfl (lv_at hl 0 rfl) ?_
  refine mm_ct6 hf (fun w_9 w_10 w_11 w_12 w_13 w_14 hc_15 hf => ?_)
  refine mm_callVF (q0 := 0) (ci := 5) (rest := []) C0 lk_X5_56 (ctX5_layOut (a := a) (d := d - 1) (by omega) hc_15) (by omega) rfl hl.1 rfl (mm_cat rfl) dX5_renew_31 hP hD hA hS rfl rfl (fun H locs hP hD hS => ?_)
  refine W.eq (g2 := F0 m 34 ls []) rfl ?_
  apply mm_sub13 hf
  exact mm_vret C0 hP hD hS dX5_renew_34
end
section
/-! parts: X5_copy, X5_beginTrial, X5_fields, X5_piles, X5_hasField, X5_hasPile, X5_span, X5_hasLine, X5_spanBehind, X5_neighbour, X5_placeOf, X5_heightAt, X5_highestPile, X5_fieldAt, X5_topAt, X5_isTop, X5_topsTouch, X5_torn, X5_across, X5_along -/
theorem nb_dX5_copy_0 : bls_w cX5_copy [(0, [42]), (1, [43]), (2, [180, 0, 40]), (5, [181, 0, 40]), (8, [42]), (9, [43]), (10, [180, 0, 44]), (13, [181, 0, 44]), (16, [42]), (17, [43]), (18, [180, 0, 68]), (21, [181, 0, 68])] := bls_of (by decide +kernel)
theorem dX5_copy_0 : decode cX5_copy 0 = .ok (.aload_n 0, 1) := op_42 nb_dX5_copy_0.1
theorem dX5_copy_1 : decode cX5_copy 1 = .ok (.aload_n 1, 1) := op_43 nb_dX5_copy_0.2.1
set_option maxRecDepth 100000 in
theorem dX5_copy_2 : decode cX5_copy 2 = .ok (.getfield 40, 3) := (op_180 nb_dX5_copy_0.2.2.1).trans rfl
set_option maxRecDepth 100000 in
theorem dX5_copy_5 : decode cX5_copy 5 = .ok (.putfield 40, 3) := (op_181 nb_dX5_copy_0.2.2.2.1).trans rfl
theorem dX5_copy_8 : decode cX5_copy 8 = .ok (.aload_n 0, 1) := op_42 nb_dX5_copy_0.2.2.2.2.1
theorem dX5_copy_9 : decode cX5_copy 9 = .ok (.aload_n 1, 1) := op_43 nb_dX5_copy_0.2.2.2.2.2.1
set_option maxRecDepth 100000 in
theorem dX5_copy_10 : decode cX5_copy 10 = .ok (.getfield 44, 3) := (op_180 nb_dX5_copy_0.2.2.2.2.2.2.1).trans rfl
set_option maxRecDepth 100000 in
theorem dX5_copy_13 : decode cX5_copy 13 = .ok (.putfield 44, 3) := (op_181 nb_dX5_copy_0.2.2.2.2.2.2.2.1).trans rfl
theorem dX5_copy_16 : decode cX5_copy 16 = .ok (.aload_n 0, 1) := op_42 nb_dX5_copy_0.2.2.2.2.2.2.2.2.1
theorem dX5_copy_17 : decode cX5_copy 17 = .ok (.aload_n 1, 1) := op_43 nb_dX5_copy_0.2.2.2.2.2.2.2.2.2.1
set_option maxRecDepth 100000 in
theorem dX5_copy_18 : decode cX5_copy 18 = .ok (.getfield 68, 3) := (op_180 nb_dX5_copy_0.2.2.2.2.2.2.2.2.2.2.1).trans rfl
set_option maxRecDepth 100000 in
theorem dX5_copy_21 : decode cX5_copy 21 = .ok (.putfield 68, 3) := (op_181 nb_dX5_copy_0.2.2.2.2.2.2.2.2.2.2.2.1).trans rfl
theorem nb_dX5_copy_24 : bls_w cX5_copy [(24, [42]), (25, [43]), (26, [180, 0, 71]), (29, [181, 0, 71]), (32, [42]), (33, [43]), (34, [180, 0, 59]), (37, [181, 0, 59]), (40, [42]), (41, [43]), (42, [180, 0, 62]), (45, [181, 0, 62])] := bls_of (by decide +kernel)
theorem dX5_copy_24 : decode cX5_copy 24 = .ok (.aload_n 0, 1) := op_42 nb_dX5_copy_24.1
theorem dX5_copy_25 : decode cX5_copy 25 = .ok (.aload_n 1, 1) := op_43 nb_dX5_copy_24.2.1
set_option maxRecDepth 100000 in
theorem dX5_copy_26 : decode cX5_copy 26 = .ok (.getfield 71, 3) := (op_180 nb_dX5_copy_24.2.2.1).trans rfl
set_option maxRecDepth 100000 in
theorem dX5_copy_29 : decode cX5_copy 29 = .ok (.putfield 71, 3) := (op_181 nb_dX5_copy_24.2.2.2.1).trans rfl
theorem dX5_copy_32 : decode cX5_copy 32 = .ok (.aload_n 0, 1) := op_42 nb_dX5_copy_24.2.2.2.2.1
theorem dX5_copy_33 : decode cX5_copy 33 = .ok (.aload_n 1, 1) := op_43 nb_dX5_copy_24.2.2.2.2.2.1
set_option maxRecDepth 100000 in
theorem dX5_copy_34 : decode cX5_copy 34 = .ok (.getfield 59, 3) := (op_180 nb_dX5_copy_24.2.2.2.2.2.2.1).trans rfl
set_option maxRecDepth 100000 in
theorem dX5_copy_37 : decode cX5_copy 37 = .ok (.putfield 59, 3) := (op_181 nb_dX5_copy_24.2.2.2.2.2.2.2.1).trans rfl
theorem dX5_copy_40 : decode cX5_copy 40 = .ok (.aload_n 0, 1) := op_42 nb_dX5_copy_24.2.2.2.2.2.2.2.2.1
theorem dX5_copy_41 : decode cX5_copy 41 = .ok (.aload_n 1, 1) := op_43 nb_dX5_copy_24.2.2.2.2.2.2.2.2.2.1
set_option maxRecDepth 100000 in
theorem dX5_copy_42 : decode cX5_copy 42 = .ok (.getfield 62, 3) := (op_180 nb_dX5_copy_24.2.2.2.2.2.2.2.2.2.2.1).trans rfl
set_option maxRecDepth 100000 in
theorem dX5_copy_45 : decode cX5_copy 45 = .ok (.putfield 62, 3) := (op_181 nb_dX5_copy_24.2.2.2.2.2.2.2.2.2.2.2.1).trans rfl
theorem nb_dX5_copy_48 : bls_w cX5_copy [(48, [42]), (49, [43]), (50, [180, 0, 65]), (53, [181, 0, 65]), (56, [43]), (57, [180, 0, 9]), (60, [3]), (61, [42]), (62, [180, 0, 9]), (65, [3]), (66, [16, 32]), (68, [184, 0, 74])] := bls_of (by decide +kernel)
theorem dX5_copy_48 : decode cX5_copy 48 = .ok (.aload_n 0, 1) := op_42 nb_dX5_copy_48.1
theorem dX5_copy_49 : decode cX5_copy 49 = .ok (.aload_n 1, 1) := op_43 nb_dX5_copy_48.2.1
set_option maxRecDepth 100000 in
theorem dX5_copy_50 : decode cX5_copy 50 = .ok (.getfield 65, 3) := (op_180 nb_dX5_copy_48.2.2.1).trans rfl
set_option maxRecDepth 100000 in
theorem dX5_copy_53 : decode cX5_copy 53 = .ok (.putfield 65, 3) := (op_181 nb_dX5_copy_48.2.2.2.1).trans rfl
theorem dX5_copy_56 : decode cX5_copy 56 = .ok (.aload_n 1, 1) := op_43 nb_dX5_copy_48.2.2.2.2.1
set_option maxRecDepth 100000 in
theorem dX5_copy_57 : decode cX5_copy 57 = .ok (.getfield 9, 3) := (op_180 nb_dX5_copy_48.2.2.2.2.2.1).trans rfl
theorem dX5_copy_60 : decode cX5_copy 60 = .ok (.iconst 0, 1) := op_3 nb_dX5_copy_48.2.2.2.2.2.2.1
theorem dX5_copy_61 : decode cX5_copy 61 = .ok (.aload_n 0, 1) := op_42 nb_dX5_copy_48.2.2.2.2.2.2.2.1
set_option maxRecDepth 100000 in
theorem dX5_copy_62 : decode cX5_copy 62 = .ok (.getfield 9, 3) := (op_180 nb_dX5_copy_48.2.2.2.2.2.2.2.2.1).trans rfl
theorem dX5_copy_65 : decode cX5_copy 65 = .ok (.iconst 0, 1) := op_3 nb_dX5_copy_48.2.2.2.2.2.2.2.2.2.1
set_option maxRecDepth 100000 in
theorem dX5_copy_66 : decode cX5_copy 66 = .ok (.bipush 32, 2) := (op_16 nb_dX5_copy_48.2.2.2.2.2.2.2.2.2.2.1).trans rfl
set_option maxRecDepth 100000 in
theorem dX5_copy_68 : decode cX5_copy 68 = .ok (.invokestatic 74, 3) := (op_184 nb_dX5_copy_48.2.2.2.2.2.2.2.2.2.2.2.1).trans rfl
theorem nb_dX5_copy_71 : bls_w cX5_copy [(71, [43]), (72, [180, 0, 15]), (75, [3]), (76, [42]), (77, [180, 0, 15]), (80, [3]), (81, [16, 32]), (83, [184, 0, 74]), (86, [43]), (87, [180, 0, 18]), (90, [3]), (91, [42])] := bls_of (by decide +kernel)
theorem dX5_copy_71 : decode cX5_copy 71 = .ok (.aload_n 1, 1) := op_43 nb_dX5_copy_71.1
set_option maxRecDepth 100000 in
theorem dX5_copy_72 : decode cX5_copy 72 = .ok (.getfield 15, 3) := (op_180 nb_dX5_copy_71.2.1).trans rfl
theorem dX5_copy_75 : decode cX5_copy 75 = .ok (.iconst 0, 1) := op_3 nb_dX5_copy_71.2.2.1
theorem dX5_copy_76 : decode cX5_copy 76 = .ok (.aload_n 0, 1) := op_42 nb_dX5_copy_71.2.2.2.1
set_option maxRecDepth 100000 in
theorem dX5_copy_77 : decode cX5_copy 77 = .ok (.getfield 15, 3) := (op_180 nb_dX5_copy_71.2.2.2.2.1).trans rfl
theorem dX5_copy_80 : decode cX5_copy 80 = .ok (.iconst 0, 1) := op_3 nb_dX5_copy_71.2.2.2.2.2.1
set_option maxRecDepth 100000 in
theorem dX5_copy_81 : decode cX5_copy 81 = .ok (.bipush 32, 2) := (op_16 nb_dX5_copy_71.2.2.2.2.2.2.1).trans rfl
set_option maxRecDepth 100000 in
theorem dX5_copy_83 : decode cX5_copy 83 = .ok (.invokestatic 74, 3) := (op_184 nb_dX5_copy_71.2.2.2.2.2.2.2.1).trans rfl
theorem dX5_copy_86 : decode cX5_copy 86 = .ok (.aload_n 1, 1) := op_43 nb_dX5_copy_71.2.2.2.2.2.2.2.2.1
set_option maxRecDepth 100000 in
theorem dX5_copy_87 : decode cX5_copy 87 = .ok (.getfield 18, 3) := (op_180 nb_dX5_copy_71.2.2.2.2.2.2.2.2.2.1).trans rfl
theorem dX5_copy_90 : decode cX5_copy 90 = .ok (.iconst 0, 1) := op_3 nb_dX5_copy_71.2.2.2.2.2.2.2.2.2.2.1
theorem dX5_copy_91 : decode cX5_copy 91 = .ok (.aload_n 0, 1) := op_42 nb_dX5_copy_71.2.2.2.2.2.2.2.2.2.2.2.1
theorem nb_dX5_copy_92 : bls_w cX5_copy [(92, [180, 0, 18]), (95, [3]), (96, [16, 32]), (98, [184, 0, 74]), (101, [43]), (102, [180, 0, 21]), (105, [3]), (106, [42]), (107, [180, 0, 21]), (110, [3]), (111, [16, 32]), (113, [184, 0, 74])] := bls_of (by decide +kernel)
set_option maxRecDepth 100000 in
theorem dX5_copy_92 : decode cX5_copy 92 = .ok (.getfield 18, 3) := (op_180 nb_dX5_copy_92.1).trans rfl
theorem dX5_copy_95 : decode cX5_copy 95 = .ok (.iconst 0, 1) := op_3 nb_dX5_copy_92.2.1
set_option maxRecDepth 100000 in
theorem dX5_copy_96 : decode cX5_copy 96 = .ok (.bipush 32, 2) := (op_16 nb_dX5_copy_92.2.2.1).trans rfl
set_option maxRecDepth 100000 in
theorem dX5_copy_98 : decode cX5_copy 98 = .ok (.invokestatic 74, 3) := (op_184 nb_dX5_copy_92.2.2.2.1).trans rfl
theorem dX5_copy_101 : decode cX5_copy 101 = .ok (.aload_n 1, 1) := op_43 nb_dX5_copy_92.2.2.2.2.1
set_option maxRecDepth 100000 in
theorem dX5_copy_102 : decode cX5_copy 102 = .ok (.getfield 21, 3) := (op_180 nb_dX5_copy_92.2.2.2.2.2.1).trans rfl
theorem dX5_copy_105 : decode cX5_copy 105 = .ok (.iconst 0, 1) := op_3 nb_dX5_copy_92.2.2.2.2.2.2.1
theorem dX5_copy_106 : decode cX5_copy 106 = .ok (.aload_n 0, 1) := op_42 nb_dX5_copy_92.2.2.2.2.2.2.2.1
set_option maxRecDepth 100000 in
theorem dX5_copy_107 : decode cX5_copy 107 = .ok (.getfield 21, 3) := (op_180 nb_dX5_copy_92.2.2.2.2.2.2.2.2.1).trans rfl
theorem dX5_copy_110 : decode cX5_copy 110 = .ok (.iconst 0, 1) := op_3 nb_dX5_copy_92.2.2.2.2.2.2.2.2.2.1
set_option maxRecDepth 100000 in
theorem dX5_copy_111 : decode cX5_copy 111 = .ok (.bipush 32, 2) := (op_16 nb_dX5_copy_92.2.2.2.2.2.2.2.2.2.2.1).trans rfl
set_option maxRecDepth 100000 in
theorem dX5_copy_113 : decode cX5_copy 113 = .ok (.invokestatic 74, 3) := (op_184 nb_dX5_copy_92.2.2.2.2.2.2.2.2.2.2.2.1).trans rfl
theorem nb_dX5_copy_116 : bls_w cX5_copy [(116, [43]), (117, [180, 0, 24]), (120, [3]), (121, [42]), (122, [180, 0, 24]), (125, [3]), (126, [16, 64]), (128, [184, 0, 74]), (131, [43]), (132, [180, 0, 27]), (135, [3]), (136, [42])] := bls_of (by decide +kernel)
theorem dX5_copy_116 : decode cX5_copy 116 = .ok (.aload_n 1, 1) := op_43 nb_dX5_copy_116.1
set_option maxRecDepth 100000 in
theorem dX5_copy_117 : decode cX5_copy 117 = .ok (.getfield 24, 3) := (op_180 nb_dX5_copy_116.2.1).trans rfl
theorem dX5_copy_120 : decode cX5_copy 120 = .ok (.iconst 0, 1) := op_3 nb_dX5_copy_116.2.2.1
theorem dX5_copy_121 : decode cX5_copy 121 = .ok (.aload_n 0, 1) := op_42 nb_dX5_copy_116.2.2.2.1
set_option maxRecDepth 100000 in
theorem dX5_copy_122 : decode cX5_copy 122 = .ok (.getfield 24, 3) := (op_180 nb_dX5_copy_116.2.2.2.2.1).trans rfl
theorem dX5_copy_125 : decode cX5_copy 125 = .ok (.iconst 0, 1) := op_3 nb_dX5_copy_116.2.2.2.2.2.1
set_option maxRecDepth 100000 in
theorem dX5_copy_126 : decode cX5_copy 126 = .ok (.bipush 64, 2) := (op_16 nb_dX5_copy_116.2.2.2.2.2.2.1).trans rfl
set_option maxRecDepth 100000 in
theorem dX5_copy_128 : decode cX5_copy 128 = .ok (.invokestatic 74, 3) := (op_184 nb_dX5_copy_116.2.2.2.2.2.2.2.1).trans rfl
theorem dX5_copy_131 : decode cX5_copy 131 = .ok (.aload_n 1, 1) := op_43 nb_dX5_copy_116.2.2.2.2.2.2.2.2.1
set_option maxRecDepth 100000 in
theorem dX5_copy_132 : decode cX5_copy 132 = .ok (.getfield 27, 3) := (op_180 nb_dX5_copy_116.2.2.2.2.2.2.2.2.2.1).trans rfl
theorem dX5_copy_135 : decode cX5_copy 135 = .ok (.iconst 0, 1) := op_3 nb_dX5_copy_116.2.2.2.2.2.2.2.2.2.2.1
theorem dX5_copy_136 : decode cX5_copy 136 = .ok (.aload_n 0, 1) := op_42 nb_dX5_copy_116.2.2.2.2.2.2.2.2.2.2.2.1
theorem nb_dX5_copy_137 : bls_w cX5_copy [(137, [180, 0, 27]), (140, [3]), (141, [16, 64]), (143, [184, 0, 74]), (146, [177])] := bls_of (by decide +kernel)
set_option maxRecDepth 100000 in
theorem dX5_copy_137 : decode cX5_copy 137 = .ok (.getfield 27, 3) := (op_180 nb_dX5_copy_137.1).trans rfl
theorem dX5_copy_140 : decode cX5_copy 140 = .ok (.iconst 0, 1) := op_3 nb_dX5_copy_137.2.1
set_option maxRecDepth 100000 in
theorem dX5_copy_141 : decode cX5_copy 141 = .ok (.bipush 64, 2) := (op_16 nb_dX5_copy_137.2.2.1).trans rfl
set_option maxRecDepth 100000 in
theorem dX5_copy_143 : decode cX5_copy 143 = .ok (.invokestatic 74, 3) := (op_184 nb_dX5_copy_137.2.2.2.1).trans rfl
theorem dX5_copy_146 : decode cX5_copy 146 = .ok (.return_, 1) := op_177 nb_dX5_copy_137.2.2.2.2.1
def fX5_copy (N : Nat) (v_rows : Int32) (v_cols : Int32) (v_high : Int32) (v_wide : Int32) (v_folds : Int32) (v_wrong : Int32) (v_more : Int32) (v_rowOf : List Int32) (v_colOf : List Int32) (v_below : List Int32) (v_face : List Int32) (v_worn : List Int32) (v_last : List Int32) (p1_rows : Int32) (p1_cols : Int32) (p1_high : Int32) (p1_wide : Int32) (p1_folds : Int32) (p1_wrong : Int32) (p1_more : Int32) (p1_rowOf : List Int32) (p1_colOf : List Int32) (p1_below : List Int32) (p1_face : List Int32) (p1_worn : List Int32) (p1_last : List Int32) : Option (Int32 × Int32 × Int32 × Int32 × Int32 × Int32 × Int32 × List Int32 × List Int32 × List Int32 × List Int32 × List Int32 × List Int32) :=
    mm_ck (mm_cok (0 : Int32) (0 : Int32) (32 : Int32) p1_rowOf.length v_rowOf.length) (mm_nm (mm_cp p1_rowOf v_rowOf (0 : Int32) (0 : Int32) (32 : Int32)) (fun (l_2 : List Int32) =>
    mm_ck (mm_cok (0 : Int32) (0 : Int32) (32 : Int32) p1_colOf.length v_colOf.length) (mm_nm (mm_cp p1_colOf v_colOf (0 : Int32) (0 : Int32) (32 : Int32)) (fun (l_4 : List Int32) =>
    mm_ck (mm_cok (0 : Int32) (0 : Int32) (32 : Int32) p1_below.length v_below.length) (mm_nm (mm_cp p1_below v_below (0 : Int32) (0 : Int32) (32 : Int32)) (fun (l_6 : List Int32) =>
    mm_ck (mm_cok (0 : Int32) (0 : Int32) (32 : Int32) p1_face.length v_face.length) (mm_nm (mm_cp p1_face v_face (0 : Int32) (0 : Int32) (32 : Int32)) (fun (l_8 : List Int32) =>
    mm_ck (mm_cok (0 : Int32) (0 : Int32) (64 : Int32) p1_worn.length v_worn.length) (mm_nm (mm_cp p1_worn v_worn (0 : Int32) (0 : Int32) (64 : Int32)) (fun (l_10 : List Int32) =>
    mm_ck (mm_cok (0 : Int32) (0 : Int32) (64 : Int32) p1_last.length v_last.length) (mm_nm (mm_cp p1_last v_last (0 : Int32) (0 : Int32) (64 : Int32)) (fun (l_12 : List Int32) =>
    some (p1_rows, p1_cols, p1_high, p1_wide, p1_folds, p1_wrong, p1_more, l_2, l_4, l_6, l_8, l_10, l_12)))))))))))))

set_option maxHeartbeats 4000000 in
set_option maxRecDepth 100000 in
theorem ctX5_copy {l : Launch} {D : va_G} {cI cL cS cH : ClassId} {a : Nat → Nat}  {v_rows : Int32} {v_cols : Int32} {v_high : Int32} {v_wide : Int32} {v_folds : Int32} {v_wrong : Int32} {v_more : Int32} {v_rowOf : List Int32} {v_colOf : List Int32} {v_below : List Int32} {v_face : List Int32} {v_worn : List Int32} {v_last : List Int32} {v_bend : List Int32} {v_tall : List Int32} {p1_rows : Int32} {p1_cols : Int32} {p1_high : Int32} {p1_wide : Int32} {p1_folds : Int32} {p1_wrong : Int32} {p1_more : Int32} {p1_rowOf : List Int32} {p1_colOf : List Int32} {p1_below : List Int32} {p1_face : List Int32} {p1_worn : List Int32} {p1_last : List Int32} {p1_bend : List Int32} {p1_tall : List Int32} {w_rows : Int32} {w_cols : Int32} {w_high : Int32} {w_wide : Int32} {w_folds : Int32} {w_wrong : Int32} {w_more : Int32} {w_rowOf : List Int32} {w_colOf : List Int32} {w_below : List Int32} {w_face : List Int32} {w_worn : List Int32} {w_last : List Int32} {N d : Nat} (hd : 1 ≤ d) (hf : fX5_copy N v_rows v_cols v_high v_wide v_folds v_wrong v_more v_rowOf v_colOf v_below v_face v_worn v_last p1_rows p1_cols p1_high p1_wide p1_folds p1_wrong p1_more p1_rowOf p1_colOf p1_below p1_face p1_worn p1_last = some (w_rows, w_cols, w_high, w_wide, w_folds, w_wrong, w_more, w_rowOf, w_colOf, w_below, w_face, w_worn, w_last)) : mm_Ct l yX5_copy cX5_copy 2 none d D (mm_T cI cL cS cH) [.ref (a 0), .ref (a 9)] (wd_X5 cI cL cS cH a v_rows v_cols v_high v_wide v_folds v_wrong v_more v_rowOf v_colOf v_below v_face v_worn v_last v_bend v_tall ++ wd_X5 cI cL cS cH (fun k => a (k + 9)) p1_rows p1_cols p1_high p1_wide p1_folds p1_wrong p1_more p1_rowOf p1_colOf p1_below p1_face p1_worn p1_last p1_bend p1_tall) (wd_X5 cI cL cS cH a w_rows w_cols w_high w_wide w_folds w_wrong w_more w_rowOf w_colOf w_below w_face w_worn w_last v_bend v_tall ++ wd_X5 cI cL cS cH (fun k => a (k + 9)) p1_rows p1_cols p1_high p1_wide p1_folds p1_wrong p1_more p1_rowOf p1_colOf p1_below p1_face p1_worn p1_last p1_bend p1_tall) none := by
  refine mm_of (by decide) (Nat.le_of_ble_eq_true rfl) ?_
  intro p e s m args below meth c A H locs ls C0 hP hD hA hS hl
  have C0 : mm_Cx p s m args meth c RX5 cX5_copy 2 none D (mm_T cI cL cS cH) A := C0
  obtain ⟨hx, hb, hml, hown, hts, hr, hlocks, hK, hSt⟩ := id C0
  have hl : lv_has ls 2 [(0, .ref (a 0)), (1, .ref (a 9))] := hl
  unfold fX5_copy at hf
  refine lv_aload_n hx hb dX5_copy_0 rfl (lv_at hl 0 rfl) ?_
  refine lv_aload_n hx hb dX5_copy_1 rfl (lv_at hl 1 rfl) ?_
  refine mm_get C0 hP iw_X5 9 rfl rfl 0 (by decide) fl_X5_40 rfl dX5_copy_2 ?_
  refine mm_put C0 hP hD hS iw_X5 tyX5 tyX5_ok nmX5 0 rfl rfl 0 (by decide) fl_X5_40 rfl rfl rfl (Nat.le_of_ble_eq_true rfl) dX5_copy_5 (w2 := (wd_X5 cI cL cS cH a p1_rows v_cols v_high v_wide v_folds v_wrong v_more v_rowOf v_colOf v_below v_face v_worn v_last v_bend v_tall ++ wd_X5 cI cL cS cH (fun k => a (k + 9)) p1_rows p1_cols p1_high p1_wide p1_folds p1_wrong p1_more p1_rowOf p1_colOf p1_below p1_face p1_worn p1_last p1_bend p1_tall)) rfl (fun H locs hP hD hS => ?_)
  refine lv_aload_n hx hb dX5_copy_8 rfl (lv_at hl 0 rfl) ?_
  refine lv_aload_n hx hb dX5_copy_9 rfl (lv_at hl 1 rfl) ?_
  refine mm_get C0 hP iw_X5 9 rfl rfl 1 (by decide) fl_X5_44 rfl dX5_copy_10 ?_
  refine mm_put C0 hP hD hS iw_X5 tyX5 tyX5_ok nmX5 0 rfl rfl 1 (by decide) fl_X5_44 rfl rfl rfl (Nat.le_of_ble_eq_true rfl) dX5_copy_13 (w2 := (wd_X5 cI cL cS cH a p1_rows p1_cols v_high v_wide v_folds v_wrong v_more v_rowOf v_colOf v_below v_face v_worn v_last v_bend v_tall ++ wd_X5 cI cL cS cH (fun k => a (k + 9)) p1_rows p1_cols p1_high p1_wide p1_folds p1_wrong p1_more p1_rowOf p1_colOf p1_below p1_face p1_worn p1_last p1_bend p1_tall)) rfl (fun H locs hP hD hS => ?_)
  refine lv_aload_n hx hb dX5_copy_16 rfl (lv_at hl 0 rfl) ?_
  refine lv_aload_n hx hb dX5_copy_17 rfl (lv_at hl 1 rfl) ?_
  refine mm_get C0 hP iw_X5 9 rfl rfl 2 (by decide) fl_X5_68 rfl dX5_copy_18 ?_
  refine mm_put C0 hP hD hS iw_X5 tyX5 tyX5_ok nmX5 0 rfl rfl 2 (by decide) fl_X5_68 rfl rfl rfl (Nat.le_of_ble_eq_true rfl) dX5_copy_21 (w2 := (wd_X5 cI cL cS cH a p1_rows p1_cols p1_high v_wide v_folds v_wrong v_more v_rowOf v_colOf v_below v_face v_worn v_last v_bend v_tall ++ wd_X5 cI cL cS cH (fun k => a (k + 9)) p1_rows p1_cols p1_high p1_wide p1_folds p1_wrong p1_more p1_rowOf p1_colOf p1_below p1_face p1_worn p1_last p1_bend p1_tall)) rfl (fun H locs hP hD hS => ?_)
  refine lv_aload_n hx hb dX5_copy_24 rfl (lv_at hl 0 rfl) ?_
  refine lv_aload_n hx hb dX5_copy_25 rfl (lv_at hl 1 rfl) ?_
  refine mm_get C0 hP iw_X5 9 rfl rfl 3 (by decide) fl_X5_71 rfl dX5_copy_26 ?_
  refine mm_put C0 hP hD hS iw_X5 tyX5 tyX5_ok nmX5 0 rfl rfl 3 (by decide) fl_X5_71 rfl rfl rfl (Nat.le_of_ble_eq_true rfl) dX5_copy_29 (w2 := (wd_X5 cI cL cS cH a p1_rows p1_cols p1_high p1_wide v_folds v_wrong v_more v_rowOf v_colOf v_below v_face v_worn v_last v_bend v_tall ++ wd_X5 cI cL cS cH (fun k => a (k + 9)) p1_rows p1_cols p1_high p1_wide p1_folds p1_wrong p1_more p1_rowOf p1_colOf p1_below p1_face p1_worn p1_last p1_bend p1_tall)) rfl (fun H locs hP hD hS => ?_)
  refine lv_aload_n hx hb dX5_copy_32 rfl (lv_at hl 0 rfl) ?_
  refine lv_aload_n hx hb dX5_copy_33 rfl (lv_at hl 1 rfl) ?_
  refine mm_get C0 hP iw_X5 9 rfl rfl 4 (by decide) fl_X5_59 rfl dX5_copy_34 ?_
  refine mm_put C0 hP hD hS iw_X5 tyX5 tyX5_ok nmX5 0 rfl rfl 4 (by decide) fl_X5_59 rfl rfl rfl (Nat.le_of_ble_eq_true rfl) dX5_copy_37 (w2 := (wd_X5 cI cL cS cH a p1_rows p1_cols p1_high p1_wide p1_folds v_wrong v_more v_rowOf v_colOf v_below v_face v_worn v_last v_bend v_tall ++ wd_X5 cI cL cS cH (fun k => a (k + 9)) p1_rows p1_cols p1_high p1_wide p1_folds p1_wrong p1_more p1_rowOf p1_colOf p1_below p1_face p1_worn p1_last p1_bend p1_tall)) rfl (fun H locs hP hD hS => ?_)
  refine lv_aload_n hx hb dX5_copy_40 rfl (lv_at hl 0 rfl) ?_
  refine lv_aload_n hx hb dX5_copy_41 rfl (lv_at hl 1 rfl) ?_
  refine mm_get C0 hP iw_X5 9 rfl rfl 5 (by decide) fl_X5_62 rfl dX5_copy_42 ?_
  refine mm_put C0 hP hD hS iw_X5 tyX5 tyX5_ok nmX5 0 rfl rfl 5 (by decide) fl_X5_62 rfl rfl rfl (Nat.le_of_ble_eq_true rfl) dX5_copy_45 (w2 := (wd_X5 cI cL cS cH a p1_rows p1_cols p1_high p1_wide p1_folds p1_wrong v_more v_rowOf v_colOf v_below v_face v_worn v_last v_bend v_tall ++ wd_X5 cI cL cS cH (fun k => a (k + 9)) p1_rows p1_cols p1_high p1_wide p1_folds p1_wrong p1_more p1_rowOf p1_colOf p1_below p1_face p1_worn p1_last p1_bend p1_tall)) rfl (fun H locs hP hD hS => ?_)
  refine lv_aload_n hx hb dX5_copy_48 rfl (lv_at hl 0 rfl) ?_
  refine lv_aload_n hx hb dX5_copy_49 rfl (lv_at hl 1 rfl) ?_
  refine mm_get C0 hP iw_X5 9 rfl rfl 6 (by decide) fl_X5_65 rfl dX5_copy_50 ?_
  refine mm_put C0 hP hD hS iw_X5 tyX5 tyX5_ok nmX5 0 rfl rfl 6 (by decide) fl_X5_65 rfl rfl rfl (Nat.le_of_ble_eq_true rfl) dX5_copy_53 (w2 := (wd_X5 cI cL cS cH a p1_rows p1_cols p1_high p1_wide p1_folds p1_wrong p1_more v_rowOf v_colOf v_below v_face v_worn v_last v_bend v_tall ++ wd_X5 cI cL cS cH (fun k => a (k + 9)) p1_rows p1_cols p1_high p1_wide p1_folds p1_wrong p1_more p1_rowOf p1_colOf p1_below p1_face p1_worn p1_last p1_bend p1_tall)) rfl (fun H locs hP hD hS => ?_)
  refine lv_aload_n hx hb dX5_copy_56 rfl (lv_at hl 1 rfl) ?_
  refine mm_get C0 hP iw_X5 9 rfl rfl 7 (by decide) fl_X5_9 rfl dX5_copy_57 ?_
  refine lv_iconst (v := 0) hx hb dX5_copy_60 (by decide) ?_
  refine lv_aload_n hx hb dX5_copy_61 rfl (lv_at hl 0 rfl) ?_
  refine mm_get C0 hP iw_X5 0 rfl rfl 7 (by decide) fl_X5_9 rfl dX5_copy_62 ?_
  refine lv_iconst (v := 0) hx hb dX5_copy_65 (by decide) ?_
  refine lv_bipush (v := 32) hx hb dX5_copy_66 (by decide) ?_
  obtain ⟨h_1, hf⟩ := mm_cks hf
  refine mm_copyi C0 la_X5_74 hP hD hS 10 1 rfl rfl h_1 hl.1 (by omega) (mm_cat rfl) dX5_copy_68 (w2 := (wd_X5 cI cL cS cH a p1_rows p1_cols p1_high p1_wide p1_folds p1_wrong p1_more (mm_cp p1_rowOf v_rowOf (0 : Int32) (0 : Int32) (32 : Int32)) v_colOf v_below v_face v_worn v_last v_bend v_tall ++ wd_X5 cI cL cS cH (fun k => a (k + 9)) p1_rows p1_cols p1_high p1_wide p1_folds p1_wrong p1_more p1_rowOf p1_colOf p1_below p1_face p1_worn p1_last p1_bend p1_tall)) rfl (fun H locs hP hD hS => ?_)
  generalize el_2 : (mm_cp p1_rowOf v_rowOf (0 : Int32) (0 : Int32) (32 : Int32)) = l_2 at hP hD
  have hf := mm_nms hf el_2.symm
  refine lv_aload_n hx hb dX5_copy_71 rfl (lv_at hl 1 rfl) ?_
  refine mm_get C0 hP iw_X5 9 rfl rfl 8 (by decide) fl_X5_15 rfl dX5_copy_72 ?_
  refine lv_iconst (v := 0) hx hb dX5_copy_75 (by decide) ?_
  refine lv_aload_n hx hb dX5_copy_76 rfl (lv_at hl 0 rfl) ?_
  refine mm_get C0 hP iw_X5 0 rfl rfl 8 (by decide) fl_X5_15 rfl dX5_copy_77 ?_
  refine lv_iconst (v := 0) hx hb dX5_copy_80 (by decide) ?_
  refine lv_bipush (v := 32) hx hb dX5_copy_81 (by decide) ?_
  obtain ⟨h_3, hf⟩ := mm_cks hf
  refine mm_copyi C0 la_X5_74 hP hD hS 11 2 rfl rfl h_3 hl.1 (by omega) (mm_cat rfl) dX5_copy_83 (w2 := (wd_X5 cI cL cS cH a p1_rows p1_cols p1_high p1_wide p1_folds p1_wrong p1_more l_2 (mm_cp p1_colOf v_colOf (0 : Int32) (0 : Int32) (32 : Int32)) v_below v_face v_worn v_last v_bend v_tall ++ wd_X5 cI cL cS cH (fun k => a (k + 9)) p1_rows p1_cols p1_high p1_wide p1_folds p1_wrong p1_more p1_rowOf p1_colOf p1_below p1_face p1_worn p1_last p1_bend p1_tall)) rfl (fun H locs hP hD hS => ?_)
  generalize el_4 : (mm_cp p1_colOf v_colOf (0 : Int32) (0 : Int32) (32 : Int32)) = l_4 at hP hD
  have hf := mm_nms hf el_4.symm
  refine lv_aload_n hx hb dX5_copy_86 rfl (lv_at hl 1 rfl) ?_
  refine mm_get C0 hP iw_X5 9 rfl rfl 9 (by decide) fl_X5_18 rfl dX5_copy_87 ?_
  refine lv_iconst (v := 0) hx hb dX5_copy_90 (by decide) ?_
  refine lv_aload_n hx hb dX5_copy_91 rfl (lv_at hl 0 rfl) ?_
  refine mm_get C0 hP iw_X5 0 rfl rfl 9 (by decide) fl_X5_18 rfl dX5_copy_92 ?_
  refine lv_iconst (v := 0) hx hb dX5_copy_95 (by decide) ?_
  refine lv_bipush (v := 32) hx hb dX5_copy_96 (by decide) ?_
  obtain ⟨h_5, hf⟩ := mm_cks hf
  refine mm_copyi C0 la_X5_74 hP hD hS 12 3 rfl rfl h_5 hl.1 (by omega) (mm_cat rfl) dX5_copy_98 (w2 := (wd_X5 cI cL cS cH a p1_rows p1_cols p1_high p1_wide p1_folds p1_wrong p1_more l_2 l_4 (mm_cp p1_below v_below (0 : Int32) (0 : Int32) (32 : Int32)) v_face v_worn v_last v_bend v_tall ++ wd_X5 cI cL cS cH (fun k => a (k + 9)) p1_rows p1_cols p1_high p1_wide p1_folds p1_wrong p1_more p1_rowOf p1_colOf p1_below p1_face p1_worn p1_last p1_bend p1_tall)) rfl (fun H locs hP hD hS => ?_)
  generalize el_6 : (mm_cp p1_below v_below (0 : Int32) (0 : Int32) (32 : Int32)) = l_6 at hP hD
  have hf := mm_nms hf el_6.symm
  refine lv_aload_n hx hb dX5_copy_101 rfl (lv_at hl 1 rfl) ?_
  refine mm_get C0 hP iw_X5 9 rfl rfl 10 (by decide) fl_X5_21 rfl dX5_copy_102 ?_
  refine lv_iconst (v := 0) hx hb dX5_copy_105 (by decide) ?_
  refine lv_aload_n hx hb dX5_copy_106 rfl (lv_at hl 0 rfl) ?_
  refine mm_get C0 hP iw_X5 0 rfl rfl 10 (by decide) fl_X5_21 rfl dX5_copy_107 ?_
  refine lv_iconst (v := 0) hx hb dX5_copy_110 (by decide) ?_
  refine lv_bipush (v := 32) hx hb dX5_copy_111 (by decide) ?_
  obtain ⟨h_7, hf⟩ := mm_cks hf
  refine mm_copyi C0 la_X5_74 hP hD hS 13 4 rfl rfl h_7 hl.1 (by omega) (mm_cat rfl) dX5_copy_113 (w2 := (wd_X5 cI cL cS cH a p1_rows p1_cols p1_high p1_wide p1_folds p1_wrong p1_more l_2 l_4 l_6 (mm_cp p1_face v_face (0 : Int32) (0 : Int32) (32 : Int32)) v_worn v_last v_bend v_tall ++ wd_X5 cI cL cS cH (fun k => a (k + 9)) p1_rows p1_cols p1_high p1_wide p1_folds p1_wrong p1_more p1_rowOf p1_colOf p1_below p1_face p1_worn p1_last p1_bend p1_tall)) rfl (fun H locs hP hD hS => ?_)
  generalize el_8 : (mm_cp p1_face v_face (0 : Int32) (0 : Int32) (32 : Int32)) = l_8 at hP hD
  have hf := mm_nms hf el_8.symm
  refine lv_aload_n hx hb dX5_copy_116 rfl (lv_at hl 1 rfl) ?_
  refine mm_get C0 hP iw_X5 9 rfl rfl 11 (by decide) fl_X5_24 rfl dX5_copy_117 ?_
  refine lv_iconst (v := 0) hx hb dX5_copy_120 (by decide) ?_
  refine lv_aload_n hx hb dX5_copy_121 rfl (lv_at hl 0 rfl) ?_
  refine mm_get C0 hP iw_X5 0 rfl rfl 11 (by decide) fl_X5_24 rfl dX5_copy_122 ?_
  refine lv_iconst (v := 0) hx hb dX5_copy_125 (by decide) ?_
  refine lv_bipush (v := 64) hx hb dX5_copy_126 (by decide) ?_
  obtain ⟨h_9, hf⟩ := mm_cks hf
  refine mm_copyi C0 la_X5_74 hP hD hS 14 5 rfl rfl h_9 hl.1 (by omega) (mm_cat rfl) dX5_copy_128 (w2 := (wd_X5 cI cL cS cH a p1_rows p1_cols p1_high p1_wide p1_folds p1_wrong p1_more l_2 l_4 l_6 l_8 (mm_cp p1_worn v_worn (0 : Int32) (0 : Int32) (64 : Int32)) v_last v_bend v_tall ++ wd_X5 cI cL cS cH (fun k => a (k + 9)) p1_rows p1_cols p1_high p1_wide p1_folds p1_wrong p1_more p1_rowOf p1_colOf p1_below p1_face p1_worn p1_last p1_bend p1_tall)) rfl (fun H locs hP hD hS => ?_)
  generalize el_10 : (mm_cp p1_worn v_worn (0 : Int32) (0 : Int32) (64 : Int32)) = l_10 at hP hD
  have hf := mm_nms hf el_10.symm
  refine lv_aload_n hx hb dX5_copy_131 rfl (lv_at hl 1 rfl) ?_
  refine mm_get C0 hP iw_X5 9 rfl rfl 12 (by decide) fl_X5_27 rfl dX5_copy_132 ?_
  refine lv_iconst (v := 0) hx hb dX5_copy_135 (by decide) ?_
  refine lv_aload_n hx hb dX5_copy_136 rfl (lv_at hl 0 rfl) ?_
  refine mm_get C0 hP iw_X5 0 rfl rfl 12 (by decide) fl_X5_27 rfl dX5_copy_137 ?_
  refine lv_iconst (v := 0) hx hb dX5_copy_140 (by decide) ?_
  refine lv_bipush (v := 64) hx hb dX5_copy_141 (by decide) ?_
  obtain ⟨h_11, hf⟩ := mm_cks hf
  refine mm_copyi C0 la_X5_74 hP hD hS 15 6 rfl rfl h_11 hl.1 (by omega) (mm_cat rfl) dX5_copy_143 (w2 := (wd_X5 cI cL cS cH a p1_rows p1_cols p1_high p1_wide p1_folds p1_wrong p1_more l_2 l_4 l_6 l_8 l_10 (mm_cp p1_last v_last (0 : Int32) (0 : Int32) (64 : Int32)) v_bend v_tall ++ wd_X5 cI cL cS cH (fun k => a (k + 9)) p1_rows p1_cols p1_high p1_wide p1_folds p1_wrong p1_more p1_rowOf p1_colOf p1_below p1_face p1_worn p1_last p1_bend p1_tall)) rfl (fun H locs hP hD hS => ?_)
  generalize el_12 : (mm_cp p1_last v_last (0 : Int32) (0 : Int32) (64 : Int32)) = l_12 at hP hD
  have hf := mm_nms hf el_12.symm
  apply mm_sub13 hf
  exact mm_vret C0 hP hD hS dX5_copy_146

theorem nb_dX5_beginTrial_0 : bls_w cX5_beginTrial [(0, [42]), (1, [43]), (2, [182, 0, 80]), (5, [42]), (6, [182, 0, 53]), (9, [42]), (10, [182, 0, 56]), (13, [177])] := bls_of (by decide +kernel)
theorem dX5_beginTrial_0 : decode cX5_beginTrial 0 = .ok (.aload_n 0, 1) := op_42 nb_dX5_beginTrial_0.1
theorem dX5_beginTrial_1 : decode cX5_beginTrial 1 = .ok (.aload_n 1, 1) := op_43 nb_dX5_beginTrial_0.2.1
set_option maxRecDepth 100000 in
theorem dX5_beginTrial_2 : decode cX5_beginTrial 2 = .ok (.invokevirtual 80, 3) := (op_182 nb_dX5_beginTrial_0.2.2.1).trans rfl
theorem dX5_beginTrial_5 : decode cX5_beginTrial 5 = .ok (.aload_n 0, 1) := op_42 nb_dX5_beginTrial_0.2.2.2.1
set_option maxRecDepth 100000 in
theorem dX5_beginTrial_6 : decode cX5_beginTrial 6 = .ok (.invokevirtual 53, 3) := (op_182 nb_dX5_beginTrial_0.2.2.2.2.1).trans rfl
theorem dX5_beginTrial_9 : decode cX5_beginTrial 9 = .ok (.aload_n 0, 1) := op_42 nb_dX5_beginTrial_0.2.2.2.2.2.1
set_option maxRecDepth 100000 in
theorem dX5_beginTrial_10 : decode cX5_beginTrial 10 = .ok (.invokevirtual 56, 3) := (op_182 nb_dX5_beginTrial_0.2.2.2.2.2.2.1).trans rfl
theorem dX5_beginTrial_13 : decode cX5_beginTrial 13 = .ok (.return_, 1) := op_177 nb_dX5_beginTrial_0.2.2.2.2.2.2.2.1
def fX5_beginTrial (N : Nat) (v_rows : Int32) (v_cols : Int32) (v_high : Int32) (v_wide : Int32) (v_folds : Int32) (v_wrong : Int32) (v_more : Int32) (v_rowOf : List Int32) (v_colOf : List Int32) (v_below : List Int32) (v_face : List Int32) (v_worn : List Int32) (v_last : List Int32) (p1_rows : Int32) (p1_cols : Int32) (p1_high : Int32) (p1_wide : Int32) (p1_folds : Int32) (p1_wrong : Int32) (p1_more : Int32) (p1_rowOf : List Int32) (p1_colOf : List Int32) (p1_below : List Int32) (p1_face : List Int32) (p1_worn : List Int32) (p1_last : List Int32) : Option (Int32 × Int32 × Int32 × Int32 × Int32 × Int32 × Int32 × List Int32 × List Int32 × List Int32 × List Int32 × List Int32 × List Int32) :=
    mm_bd13 (fX5_copy N v_rows v_cols v_high v_wide v_folds v_wrong v_more v_rowOf v_colOf v_below v_face v_worn v_last p1_rows p1_cols p1_high p1_wide p1_folds p1_wrong p1_more p1_rowOf p1_colOf p1_below p1_face p1_worn p1_last) (fun (w_1 : Int32) (w_2 : Int32) (w_3 : Int32) (w_4 : Int32) (w_5 : Int32) (w_6 : Int32) (w_7 : Int32) (w_8 : List Int32) (w_9 : List Int32) (w_10 : List Int32) (w_11 : List Int32) (w_12 : List Int32) (w_13 : List Int32) =>
    mm_bd3 (fX5_forgetLed N w_5 w_6 w_7) (fun (w_15 : Int32) (w_16 : Int32) (w_17 : Int32) =>
    mm_bd6 (fX5_layOut N w_1 w_2 w_3 w_4 w_8 w_9 w_10 w_11) (fun (w_19 : Int32) (w_20 : Int32) (w_21 : List Int32) (w_22 : List Int32) (w_23 : List Int32) (w_24 : List Int32) =>
    some (w_1, w_2, w_19, w_20, w_15, w_16, w_17, w_21, w_22, w_23, w_24, w_12, w_13))))

set_option maxHeartbeats 4000000 in
set_option maxRecDepth 100000 in
theorem ctX5_beginTrial {l : Launch} {D : va_G} {cI cL cS cH : ClassId} {a : Nat → Nat}  {v_rows : Int32} {v_cols : Int32} {v_high : Int32} {v_wide : Int32} {v_folds : Int32} {v_wrong : Int32} {v_more : Int32} {v_rowOf : List Int32} {v_colOf : List Int32} {v_below : List Int32} {v_face : List Int32} {v_worn : List Int32} {v_last : List Int32} {v_bend : List Int32} {v_tall : List Int32} {p1_rows : Int32} {p1_cols : Int32} {p1_high : Int32} {p1_wide : Int32} {p1_folds : Int32} {p1_wrong : Int32} {p1_more : Int32} {p1_rowOf : List Int32} {p1_colOf : List Int32} {p1_below : List Int32} {p1_face : List Int32} {p1_worn : List Int32} {p1_last : List Int32} {p1_bend : List Int32} {p1_tall : List Int32} {w_rows : Int32} {w_cols : Int32} {w_high : Int32} {w_wide : Int32} {w_folds : Int32} {w_wrong : Int32} {w_more : Int32} {w_rowOf : List Int32} {w_colOf : List Int32} {w_below : List Int32} {w_face : List Int32} {w_worn : List Int32} {w_last : List Int32} {N d : Nat} (hd : 2 ≤ d) (hf : fX5_beginTrial N v_rows v_cols v_high v_wide v_folds v_wrong v_more v_rowOf v_colOf v_below v_face v_worn v_last p1_rows p1_cols p1_high p1_wide p1_folds p1_wrong p1_more p1_rowOf p1_colOf p1_below p1_face p1_worn p1_last = some (w_rows, w_cols, w_high, w_wide, w_folds, w_wrong, w_more, w_rowOf, w_colOf, w_below, w_face, w_worn, w_last)) : mm_Ct l yX5_beginTrial cX5_beginTrial 2 none d D (mm_T cI cL cS cH) [.ref (a 0), .ref (a 9)] (wd_X5 cI cL cS cH a v_rows v_cols v_high v_wide v_folds v_wrong v_more v_rowOf v_colOf v_below v_face v_worn v_last v_bend v_tall ++ wd_X5 cI cL cS cH (fun k => a (k + 9)) p1_rows p1_cols p1_high p1_wide p1_folds p1_wrong p1_more p1_rowOf p1_colOf p1_below p1_face p1_worn p1_last p1_bend p1_tall) (wd_X5 cI cL cS cH a w_rows w_cols w_high w_wide w_folds w_wrong w_more w_rowOf w_colOf w_below w_face w_worn w_last v_bend v_tall ++ wd_X5 cI cL cS cH (fun k => a (k + 9)) p1_rows p1_cols p1_high p1_wide p1_folds p1_wrong p1_more p1_rowOf p1_colOf p1_below p1_face p1_worn p1_last p1_bend p1_tall) none := by
  refine mm_of (by decide) (Nat.le_of_ble_eq_true rfl) ?_
  intro p e s m args below meth c A H locs ls C0 hP hD hA hS hl
  have C0 : mm_Cx p s m args meth c RX5 cX5_beginTrial 2 none D (mm_T cI cL cS cH) A := C0
  obtain ⟨hx, hb, hml, hown, hts, hr, hlocks, hK, hSt⟩ := id C0
  have hl : lv_has ls 2 [(0, .ref (a 0)), (1, .ref (a 9))] := hl
  unfold fX5_beginTrial at hf
  refine lv_aload_n hx hb dX5_beginTrial_0 rfl (lv_at hl 0 rfl) ?_
  refine lv_aload_n hx hb dX5_beginTrial_1 rfl (lv_at hl 1 rfl) ?_
  refine mm_ct13 hf (fun w_1 w_2 w_3 w_4 w_5 w_6 w_7 w_8 w_9 w_10 w_11 w_12 w_13 hc_14 hf => ?_)
  refine mm_callVF (q0 := 0) (ci := 5) (rest := []) C0 lk_X5_80 (ctX5_copy (a := a) (d := d - 1) (by omega) hc_14) (by omega) rfl hl.1 rfl (mm_cat rfl) dX5_beginTrial_2 hP hD hA hS rfl rfl (fun H locs hP hD hS => ?_)
  refine W.eq (g2 := F0 m 5 ls []) rfl ?_
  refine lv_aload_n hx hb dX5_beginTrial_5 rfl (lv_at hl 0 rfl) ?_
  obtain ⟨w_15, w_16, w_17, hc_18, hf⟩ := mm_bd3s hf
  refine mm_callW (q0 := 0) (ci := 5) (w2 := (wd_X5 cI cL cS cH a w_1 w_2 w_3 w_4 w_15 w_16 w_17 w_8 w_9 w_10 w_11 w_12 w_13 v_bend v_tall ++ wd_X5 cI cL cS cH (fun k => a (k + 9)) p1_rows p1_cols p1_high p1_wide p1_folds p1_wrong p1_more p1_rowOf p1_colOf p1_below p1_face p1_worn p1_last p1_bend p1_tall)) (rest := []) C0 lk_X5_53 (ctX5_forgetLed (a := (fun k => a (k + 0))) (d := d - 1) (by omega) hc_18) (by omega) rfl hl.1 rfl (mm_cat rfl) dX5_beginTrial_6 hP hD hA hS rfl rfl [true, true, true, true, true, true, true, true, true, false, false, false, false, false, false, false, false, false] rfl rfl rfl rfl (fun H locs hP hD hS => ?_)
  refine W.eq (g2 := F0 m 9 ls []) rfl ?_
  refine lv_aload_n hx hb dX5_beginTrial_9 rfl (lv_at hl 0 rfl) ?_
  refine mm_ct6 hf (fun w_19 w_20 w_21 w_22 w_23 w_24 hc_25 hf => ?_)
  refine mm_callW (q0 := 0) (ci := 5) (w2 := (wd_X5 cI cL cS cH a w_1 w_2 w_19 w_20 w_15 w_16 w_17 w_21 w_22 w_23 w_24 w_12 w_13 v_bend v_tall ++ wd_X5 cI cL cS cH (fun k => a (k + 9)) p1_rows p1_cols p1_high p1_wide p1_folds p1_wrong p1_more p1_rowOf p1_colOf p1_below p1_face p1_worn p1_last p1_bend p1_tall)) (rest := []) C0 lk_X5_56 (ctX5_layOut (a := (fun k => a (k + 0))) (d := d - 1) (by omega) hc_25) (by omega) rfl hl.1 rfl (mm_cat rfl) dX5_beginTrial_10 hP hD hA hS rfl rfl [true, true, true, true, true, true, true, true, true, false, false, false, false, false, false, false, false, false] rfl rfl rfl rfl (fun H locs hP hD hS => ?_)
  refine W.eq (g2 := F0 m 13 ls []) rfl ?_
  apply mm_sub13 hf
  exact mm_vret C0 hP hD hS dX5_beginTrial_13

theorem nb_dX5_fields_0 : bls_w cX5_fields [(0, [42]), (1, [180, 0, 40]), (4, [42]), (5, [180, 0, 44]), (8, [104]), (9, [172])] := bls_of (by decide +kernel)
theorem dX5_fields_0 : decode cX5_fields 0 = .ok (.aload_n 0, 1) := op_42 nb_dX5_fields_0.1
set_option maxRecDepth 100000 in
theorem dX5_fields_1 : decode cX5_fields 1 = .ok (.getfield 40, 3) := (op_180 nb_dX5_fields_0.2.1).trans rfl
theorem dX5_fields_4 : decode cX5_fields 4 = .ok (.aload_n 0, 1) := op_42 nb_dX5_fields_0.2.2.1
set_option maxRecDepth 100000 in
theorem dX5_fields_5 : decode cX5_fields 5 = .ok (.getfield 44, 3) := (op_180 nb_dX5_fields_0.2.2.2.1).trans rfl
theorem dX5_fields_8 : decode cX5_fields 8 = .ok (.imul, 1) := op_104 nb_dX5_fields_0.2.2.2.2.1
theorem dX5_fields_9 : decode cX5_fields 9 = .ok (.ireturn, 1) := op_172 nb_dX5_fields_0.2.2.2.2.2.1
def fX5_fields (N : Nat) (v_rows : Int32) (v_cols : Int32) : Option (Int32) :=
    some ((v_rows * v_cols))

set_option maxHeartbeats 4000000 in
set_option maxRecDepth 100000 in
theorem ctX5_fields {l : Launch} {D : va_G} {cI cL cS cH : ClassId} {a : Nat → Nat}  {v_rows : Int32} {v_cols : Int32} {v_high : Int32} {v_wide : Int32} {v_folds : Int32} {v_wrong : Int32} {v_more : Int32} {v_rowOf : List Int32} {v_colOf : List Int32} {v_below : List Int32} {v_face : List Int32} {v_worn : List Int32} {v_last : List Int32} {v_bend : List Int32} {v_tall : List Int32} {r : Int32} {N d : Nat} (hd : 1 ≤ d) (hf : fX5_fields N v_rows v_cols = some r) : mm_Ct l yX5_fields cX5_fields 1 (some .int) d D (mm_T cI cL cS cH) [.ref (a 0)] (wd_X5 cI cL cS cH a v_rows v_cols v_high v_wide v_folds v_wrong v_more v_rowOf v_colOf v_below v_face v_worn v_last v_bend v_tall) (wd_X5 cI cL cS cH a v_rows v_cols v_high v_wide v_folds v_wrong v_more v_rowOf v_colOf v_below v_face v_worn v_last v_bend v_tall) (some (.int r)) := by
  refine mm_of (by decide) (Nat.le_of_ble_eq_true rfl) ?_
  intro p e s m args below meth c A H locs ls C0 hP hD hA hS hl
  have C0 : mm_Cx p s m args meth c RX5 cX5_fields 1 (some .int) D (mm_T cI cL cS cH) A := C0
  obtain ⟨hx, hb, hml, hown, hts, hr, hlocks, hK, hSt⟩ := id C0
  have hl : lv_has ls 1 [(0, .ref (a 0))] := hl
  unfold fX5_fields at hf
  refine lv_aload_n hx hb dX5_fields_0 rfl (lv_at hl 0 rfl) ?_
  refine mm_get C0 hP iw_X5 0 rfl rfl 0 (by decide) fl_X5_40 rfl dX5_fields_1 ?_
  refine lv_aload_n hx hb dX5_fields_4 rfl (lv_at hl 0 rfl) ?_
  refine mm_get C0 hP iw_X5 0 rfl rfl 1 (by decide) fl_X5_44 rfl dX5_fields_5 ?_
  refine lv_imul hx hb dX5_fields_8 ?_
  obtain rfl := mm_inj1 hf
  exact mm_iret C0 hP hD hS dX5_fields_9

theorem nb_dX5_piles_0 : bls_w cX5_piles [(0, [42]), (1, [180, 0, 68]), (4, [42]), (5, [180, 0, 71]), (8, [104]), (9, [172])] := bls_of (by decide +kernel)
theorem dX5_piles_0 : decode cX5_piles 0 = .ok (.aload_n 0, 1) := op_42 nb_dX5_piles_0.1
set_option maxRecDepth 100000 in
theorem dX5_piles_1 : decode cX5_piles 1 = .ok (.getfield 68, 3) := (op_180 nb_dX5_piles_0.2.1).trans rfl
theorem dX5_piles_4 : decode cX5_piles 4 = .ok (.aload_n 0, 1) := op_42 nb_dX5_piles_0.2.2.1
set_option maxRecDepth 100000 in
theorem dX5_piles_5 : decode cX5_piles 5 = .ok (.getfield 71, 3) := (op_180 nb_dX5_piles_0.2.2.2.1).trans rfl
theorem dX5_piles_8 : decode cX5_piles 8 = .ok (.imul, 1) := op_104 nb_dX5_piles_0.2.2.2.2.1
theorem dX5_piles_9 : decode cX5_piles 9 = .ok (.ireturn, 1) := op_172 nb_dX5_piles_0.2.2.2.2.2.1
def fX5_piles (N : Nat) (v_high : Int32) (v_wide : Int32) : Option (Int32) :=
    some ((v_high * v_wide))

set_option maxHeartbeats 4000000 in
set_option maxRecDepth 100000 in
theorem ctX5_piles {l : Launch} {D : va_G} {cI cL cS cH : ClassId} {a : Nat → Nat}  {v_rows : Int32} {v_cols : Int32} {v_high : Int32} {v_wide : Int32} {v_folds : Int32} {v_wrong : Int32} {v_more : Int32} {v_rowOf : List Int32} {v_colOf : List Int32} {v_below : List Int32} {v_face : List Int32} {v_worn : List Int32} {v_last : List Int32} {v_bend : List Int32} {v_tall : List Int32} {r : Int32} {N d : Nat} (hd : 1 ≤ d) (hf : fX5_piles N v_high v_wide = some r) : mm_Ct l yX5_piles cX5_piles 1 (some .int) d D (mm_T cI cL cS cH) [.ref (a 0)] (wd_X5 cI cL cS cH a v_rows v_cols v_high v_wide v_folds v_wrong v_more v_rowOf v_colOf v_below v_face v_worn v_last v_bend v_tall) (wd_X5 cI cL cS cH a v_rows v_cols v_high v_wide v_folds v_wrong v_more v_rowOf v_colOf v_below v_face v_worn v_last v_bend v_tall) (some (.int r)) := by
  refine mm_of (by decide) (Nat.le_of_ble_eq_true rfl) ?_
  intro p e s m args below meth c A H locs ls C0 hP hD hA hS hl
  have C0 : mm_Cx p s m args meth c RX5 cX5_piles 1 (some .int) D (mm_T cI cL cS cH) A := C0
  obtain ⟨hx, hb, hml, hown, hts, hr, hlocks, hK, hSt⟩ := id C0
  have hl : lv_has ls 1 [(0, .ref (a 0))] := hl
  unfold fX5_piles at hf
  refine lv_aload_n hx hb dX5_piles_0 rfl (lv_at hl 0 rfl) ?_
  refine mm_get C0 hP iw_X5 0 rfl rfl 2 (by decide) fl_X5_68 rfl dX5_piles_1 ?_
  refine lv_aload_n hx hb dX5_piles_4 rfl (lv_at hl 0 rfl) ?_
  refine mm_get C0 hP iw_X5 0 rfl rfl 3 (by decide) fl_X5_71 rfl dX5_piles_5 ?_
  refine lv_imul hx hb dX5_piles_8 ?_
  obtain rfl := mm_inj1 hf
  exact mm_iret C0 hP hD hS dX5_piles_9

theorem nb_dX5_hasField_0 : bls_w cX5_hasField [(0, [27]), (1, [155, 0, 15]), (4, [27]), (5, [42]), (6, [182, 0, 84]), (9, [162, 0, 7]), (12, [4]), (13, [167, 0, 4]), (16, [3]), (17, [172])] := bls_of (by decide +kernel)
theorem dX5_hasField_0 : decode cX5_hasField 0 = .ok (.iload_n 1, 1) := op_27 nb_dX5_hasField_0.1
set_option maxRecDepth 100000 in
theorem dX5_hasField_1 : decode cX5_hasField 1 = .ok (.ifCond .lt 15, 3) := (op_155 nb_dX5_hasField_0.2.1).trans rfl
theorem dX5_hasField_4 : decode cX5_hasField 4 = .ok (.iload_n 1, 1) := op_27 nb_dX5_hasField_0.2.2.1
theorem dX5_hasField_5 : decode cX5_hasField 5 = .ok (.aload_n 0, 1) := op_42 nb_dX5_hasField_0.2.2.2.1
set_option maxRecDepth 100000 in
theorem dX5_hasField_6 : decode cX5_hasField 6 = .ok (.invokevirtual 84, 3) := (op_182 nb_dX5_hasField_0.2.2.2.2.1).trans rfl
set_option maxRecDepth 100000 in
theorem dX5_hasField_9 : decode cX5_hasField 9 = .ok (.if_icmp .ge 7, 3) := (op_162 nb_dX5_hasField_0.2.2.2.2.2.1).trans rfl
theorem dX5_hasField_12 : decode cX5_hasField 12 = .ok (.iconst 1, 1) := op_4 nb_dX5_hasField_0.2.2.2.2.2.2.1
set_option maxRecDepth 100000 in
theorem dX5_hasField_13 : decode cX5_hasField 13 = .ok (.goto 4, 3) := (op_167 nb_dX5_hasField_0.2.2.2.2.2.2.2.1).trans rfl
theorem dX5_hasField_16 : decode cX5_hasField 16 = .ok (.iconst 0, 1) := op_3 nb_dX5_hasField_0.2.2.2.2.2.2.2.2.1
theorem dX5_hasField_17 : decode cX5_hasField 17 = .ok (.ireturn, 1) := op_172 nb_dX5_hasField_0.2.2.2.2.2.2.2.2.2.1
def fX5_hasField (N : Nat) (x1 : Int32) (v_rows : Int32) (v_cols : Int32) : Option (Bool) :=
    if x1 < 0 then
    (some (false))
    else (mm_bd1 (fX5_fields N v_rows v_cols) (fun (r_2 : Int32) =>
    if r_2 ≤ x1 then
    (some (false))
    else (some (true))))

set_option maxHeartbeats 4000000 in
set_option maxRecDepth 100000 in
theorem ctX5_hasField {l : Launch} {D : va_G} {cI cL cS cH : ClassId} {a : Nat → Nat} {x1 : Int32} {v_rows : Int32} {v_cols : Int32} {v_high : Int32} {v_wide : Int32} {v_folds : Int32} {v_wrong : Int32} {v_more : Int32} {v_rowOf : List Int32} {v_colOf : List Int32} {v_below : List Int32} {v_face : List Int32} {v_worn : List Int32} {v_last : List Int32} {v_bend : List Int32} {v_tall : List Int32} {r : Bool} {N d : Nat} (hd : 2 ≤ d) (hf : fX5_hasField N x1 v_rows v_cols = some r) : mm_Ct l yX5_hasField cX5_hasField 2 (some .boolean) d D (mm_T cI cL cS cH) [.ref (a 0), .int x1] (wd_X5 cI cL cS cH a v_rows v_cols v_high v_wide v_folds v_wrong v_more v_rowOf v_colOf v_below v_face v_worn v_last v_bend v_tall) (wd_X5 cI cL cS cH a v_rows v_cols v_high v_wide v_folds v_wrong v_more v_rowOf v_colOf v_below v_face v_worn v_last v_bend v_tall) (some (.int (mm_b r))) := by
  refine mm_of (by decide) (Nat.le_of_ble_eq_true rfl) ?_
  intro p e s m args below meth c A H locs ls C0 hP hD hA hS hl
  have C0 : mm_Cx p s m args meth c RX5 cX5_hasField 2 (some .boolean) D (mm_T cI cL cS cH) A := C0
  obtain ⟨hx, hb, hml, hown, hts, hr, hlocks, hK, hSt⟩ := id C0
  have hl : lv_has ls 2 [(0, .ref (a 0)), (1, .int x1)] := hl
  unfold fX5_hasField at hf
  refine lv_iload_n hx hb dX5_hasField_0 rfl (lv_at hl 1 rfl) ?_
  refine lv_if_lt (tgt := 16) hx hb dX5_hasField_1 (by decide) (fun c_1 => ?_) (fun c_1 => ?_)
  · have hf := mm_ip hf c_1
    refine lv_iconst (v := 0) hx hb dX5_hasField_16 (by decide) ?_
    obtain rfl := mm_inj1 hf
    exact mm_zret (v := false) C0 hP hD hS dX5_hasField_17 (by decide)
  · have hf := mm_in hf c_1
    refine lv_iload_n hx hb dX5_hasField_4 rfl (lv_at hl 1 rfl) ?_
    refine lv_aload_n hx hb dX5_hasField_5 rfl (lv_at hl 0 rfl) ?_
    obtain ⟨r_2, hc_3, hf⟩ := mm_bd1s hf
    refine mm_callVF (q0 := 0) (ci := 5) (rest := [.int x1]) C0 lk_X5_84 (ctX5_fields (a := a) (d := d - 1) (by omega) hc_3) (by omega) rfl hl.1 rfl (mm_cat rfl) dX5_hasField_6 hP hD hA hS rfl rfl (fun H locs hP hD hS => ?_)
    refine W.eq (g2 := F0 m 9 ls [.int r_2, .int x1]) rfl ?_
    refine lv_icmp_ge (tgt := 16) hx hb dX5_hasField_9 (by decide) (fun c_4 => ?_) (fun c_4 => ?_)
    · have hf := mm_ip hf c_4
      refine lv_iconst (v := 0) hx hb dX5_hasField_16 (by decide) ?_
      obtain rfl := mm_inj1 hf
      exact mm_zret (v := false) C0 hP hD hS dX5_hasField_17 (by decide)
    · have hf := mm_in hf c_4
      refine lv_iconst (v := 1) hx hb dX5_hasField_12 (by decide) ?_
      refine lv_goto (tgt := 17) hx hb dX5_hasField_13 (by decide) ?_
      obtain rfl := mm_inj1 hf
      exact mm_zret (v := true) C0 hP hD hS dX5_hasField_17 (by decide)

theorem nb_dX5_hasPile_0 : bls_w cX5_hasPile [(0, [27]), (1, [155, 0, 29]), (4, [27]), (5, [16, 10]), (7, [108]), (8, [42]), (9, [180, 0, 68]), (12, [162, 0, 18]), (15, [27]), (16, [16, 10]), (18, [112]), (19, [42])] := bls_of (by decide +kernel)
theorem dX5_hasPile_0 : decode cX5_hasPile 0 = .ok (.iload_n 1, 1) := op_27 nb_dX5_hasPile_0.1
set_option maxRecDepth 100000 in
theorem dX5_hasPile_1 : decode cX5_hasPile 1 = .ok (.ifCond .lt 29, 3) := (op_155 nb_dX5_hasPile_0.2.1).trans rfl
theorem dX5_hasPile_4 : decode cX5_hasPile 4 = .ok (.iload_n 1, 1) := op_27 nb_dX5_hasPile_0.2.2.1
set_option maxRecDepth 100000 in
theorem dX5_hasPile_5 : decode cX5_hasPile 5 = .ok (.bipush 10, 2) := (op_16 nb_dX5_hasPile_0.2.2.2.1).trans rfl
theorem dX5_hasPile_7 : decode cX5_hasPile 7 = .ok (.idiv, 1) := op_108 nb_dX5_hasPile_0.2.2.2.2.1
theorem dX5_hasPile_8 : decode cX5_hasPile 8 = .ok (.aload_n 0, 1) := op_42 nb_dX5_hasPile_0.2.2.2.2.2.1
set_option maxRecDepth 100000 in
theorem dX5_hasPile_9 : decode cX5_hasPile 9 = .ok (.getfield 68, 3) := (op_180 nb_dX5_hasPile_0.2.2.2.2.2.2.1).trans rfl
set_option maxRecDepth 100000 in
theorem dX5_hasPile_12 : decode cX5_hasPile 12 = .ok (.if_icmp .ge 18, 3) := (op_162 nb_dX5_hasPile_0.2.2.2.2.2.2.2.1).trans rfl
theorem dX5_hasPile_15 : decode cX5_hasPile 15 = .ok (.iload_n 1, 1) := op_27 nb_dX5_hasPile_0.2.2.2.2.2.2.2.2.1
set_option maxRecDepth 100000 in
theorem dX5_hasPile_16 : decode cX5_hasPile 16 = .ok (.bipush 10, 2) := (op_16 nb_dX5_hasPile_0.2.2.2.2.2.2.2.2.2.1).trans rfl
theorem dX5_hasPile_18 : decode cX5_hasPile 18 = .ok (.irem, 1) := op_112 nb_dX5_hasPile_0.2.2.2.2.2.2.2.2.2.2.1
theorem dX5_hasPile_19 : decode cX5_hasPile 19 = .ok (.aload_n 0, 1) := op_42 nb_dX5_hasPile_0.2.2.2.2.2.2.2.2.2.2.2.1
theorem nb_dX5_hasPile_20 : bls_w cX5_hasPile [(20, [180, 0, 71]), (23, [162, 0, 7]), (26, [4]), (27, [167, 0, 4]), (30, [3]), (31, [172])] := bls_of (by decide +kernel)
set_option maxRecDepth 100000 in
theorem dX5_hasPile_20 : decode cX5_hasPile 20 = .ok (.getfield 71, 3) := (op_180 nb_dX5_hasPile_20.1).trans rfl
set_option maxRecDepth 100000 in
theorem dX5_hasPile_23 : decode cX5_hasPile 23 = .ok (.if_icmp .ge 7, 3) := (op_162 nb_dX5_hasPile_20.2.1).trans rfl
theorem dX5_hasPile_26 : decode cX5_hasPile 26 = .ok (.iconst 1, 1) := op_4 nb_dX5_hasPile_20.2.2.1
set_option maxRecDepth 100000 in
theorem dX5_hasPile_27 : decode cX5_hasPile 27 = .ok (.goto 4, 3) := (op_167 nb_dX5_hasPile_20.2.2.2.1).trans rfl
theorem dX5_hasPile_30 : decode cX5_hasPile 30 = .ok (.iconst 0, 1) := op_3 nb_dX5_hasPile_20.2.2.2.2.1
theorem dX5_hasPile_31 : decode cX5_hasPile 31 = .ok (.ireturn, 1) := op_172 nb_dX5_hasPile_20.2.2.2.2.2.1
def fX5_hasPile (N : Nat) (x1 : Int32) (v_high : Int32) (v_wide : Int32) : Option (Bool) :=
    if x1 < 0 then
    (some (false))
    else (mm_ck (mm_nz (10 : Int32)) (if v_high ≤ (x1 / (10 : Int32)) then
    (some (false))
    else (mm_ck (mm_nz (10 : Int32)) (if v_wide ≤ (mm_rem x1 (10 : Int32)) then
    (some (false))
    else (some (true))))))

set_option maxHeartbeats 4000000 in
set_option maxRecDepth 100000 in
theorem ctX5_hasPile {l : Launch} {D : va_G} {cI cL cS cH : ClassId} {a : Nat → Nat} {x1 : Int32} {v_rows : Int32} {v_cols : Int32} {v_high : Int32} {v_wide : Int32} {v_folds : Int32} {v_wrong : Int32} {v_more : Int32} {v_rowOf : List Int32} {v_colOf : List Int32} {v_below : List Int32} {v_face : List Int32} {v_worn : List Int32} {v_last : List Int32} {v_bend : List Int32} {v_tall : List Int32} {r : Bool} {N d : Nat} (hd : 1 ≤ d) (hf : fX5_hasPile N x1 v_high v_wide = some r) : mm_Ct l yX5_hasPile cX5_hasPile 2 (some .boolean) d D (mm_T cI cL cS cH) [.ref (a 0), .int x1] (wd_X5 cI cL cS cH a v_rows v_cols v_high v_wide v_folds v_wrong v_more v_rowOf v_colOf v_below v_face v_worn v_last v_bend v_tall) (wd_X5 cI cL cS cH a v_rows v_cols v_high v_wide v_folds v_wrong v_more v_rowOf v_colOf v_below v_face v_worn v_last v_bend v_tall) (some (.int (mm_b r))) := by
  refine mm_of (by decide) (Nat.le_of_ble_eq_true rfl) ?_
  intro p e s m args below meth c A H locs ls C0 hP hD hA hS hl
  have C0 : mm_Cx p s m args meth c RX5 cX5_hasPile 2 (some .boolean) D (mm_T cI cL cS cH) A := C0
  obtain ⟨hx, hb, hml, hown, hts, hr, hlocks, hK, hSt⟩ := id C0
  have hl : lv_has ls 2 [(0, .ref (a 0)), (1, .int x1)] := hl
  unfold fX5_hasPile at hf
  refine lv_iload_n hx hb dX5_hasPile_0 rfl (lv_at hl 1 rfl) ?_
  refine lv_if_lt (tgt := 30) hx hb dX5_hasPile_1 (by decide) (fun c_1 => ?_) (fun c_1 => ?_)
  · have hf := mm_ip hf c_1
    refine lv_iconst (v := 0) hx hb dX5_hasPile_30 (by decide) ?_
    obtain rfl := mm_inj1 hf
    exact mm_zret (v := false) C0 hP hD hS dX5_hasPile_31 (by decide)
  · have hf := mm_in hf c_1
    refine lv_iload_n hx hb dX5_hasPile_4 rfl (lv_at hl 1 rfl) ?_
    refine lv_bipush (v := 10) hx hb dX5_hasPile_5 (by decide) ?_
    obtain ⟨h_2, hf⟩ := mm_cks hf
    refine lv_idiv hx hb dX5_hasPile_7 (mm_nzs h_2) ?_
    refine lv_aload_n hx hb dX5_hasPile_8 rfl (lv_at hl 0 rfl) ?_
    refine mm_get C0 hP iw_X5 0 rfl rfl 2 (by decide) fl_X5_68 rfl dX5_hasPile_9 ?_
    refine lv_icmp_ge (tgt := 30) hx hb dX5_hasPile_12 (by decide) (fun c_3 => ?_) (fun c_3 => ?_)
    · have hf := mm_ip hf c_3
      refine lv_iconst (v := 0) hx hb dX5_hasPile_30 (by decide) ?_
      obtain rfl := mm_inj1 hf
      exact mm_zret (v := false) C0 hP hD hS dX5_hasPile_31 (by decide)
    · have hf := mm_in hf c_3
      refine lv_iload_n hx hb dX5_hasPile_15 rfl (lv_at hl 1 rfl) ?_
      refine lv_bipush (v := 10) hx hb dX5_hasPile_16 (by decide) ?_
      obtain ⟨h_4, hf⟩ := mm_cks hf
      refine lv_irem hx hb dX5_hasPile_18 (mm_nzs h_4) ?_
      refine lv_aload_n hx hb dX5_hasPile_19 rfl (lv_at hl 0 rfl) ?_
      refine mm_get C0 hP iw_X5 0 rfl rfl 3 (by decide) fl_X5_71 rfl dX5_hasPile_20 ?_
      refine lv_icmp_ge (tgt := 30) hx hb dX5_hasPile_23 (by decide) (fun c_5 => ?_) (fun c_5 => ?_)
      · have hf := mm_ip hf c_5
        refine lv_iconst (v := 0) hx hb dX5_hasPile_30 (by decide) ?_
        obtain rfl := mm_inj1 hf
        exact mm_zret (v := false) C0 hP hD hS dX5_hasPile_31 (by decide)
      · have hf := mm_in hf c_5
        refine lv_iconst (v := 1) hx hb dX5_hasPile_26 (by decide) ?_
        refine lv_goto (tgt := 31) hx hb dX5_hasPile_27 (by decide) ?_
        obtain rfl := mm_inj1 hf
        exact mm_zret (v := true) C0 hP hD hS dX5_hasPile_31 (by decide)

theorem nb_dX5_span_0 : bls_w cX5_span [(0, [27]), (1, [7]), (2, [162, 0, 10]), (5, [42]), (6, [180, 0, 71]), (9, [167, 0, 7]), (12, [42]), (13, [180, 0, 68]), (16, [172])] := bls_of (by decide +kernel)
theorem dX5_span_0 : decode cX5_span 0 = .ok (.iload_n 1, 1) := op_27 nb_dX5_span_0.1
theorem dX5_span_1 : decode cX5_span 1 = .ok (.iconst 4, 1) := op_7 nb_dX5_span_0.2.1
set_option maxRecDepth 100000 in
theorem dX5_span_2 : decode cX5_span 2 = .ok (.if_icmp .ge 10, 3) := (op_162 nb_dX5_span_0.2.2.1).trans rfl
theorem dX5_span_5 : decode cX5_span 5 = .ok (.aload_n 0, 1) := op_42 nb_dX5_span_0.2.2.2.1
set_option maxRecDepth 100000 in
theorem dX5_span_6 : decode cX5_span 6 = .ok (.getfield 71, 3) := (op_180 nb_dX5_span_0.2.2.2.2.1).trans rfl
set_option maxRecDepth 100000 in
theorem dX5_span_9 : decode cX5_span 9 = .ok (.goto 7, 3) := (op_167 nb_dX5_span_0.2.2.2.2.2.1).trans rfl
theorem dX5_span_12 : decode cX5_span 12 = .ok (.aload_n 0, 1) := op_42 nb_dX5_span_0.2.2.2.2.2.2.1
set_option maxRecDepth 100000 in
theorem dX5_span_13 : decode cX5_span 13 = .ok (.getfield 68, 3) := (op_180 nb_dX5_span_0.2.2.2.2.2.2.2.1).trans rfl
theorem dX5_span_16 : decode cX5_span 16 = .ok (.ireturn, 1) := op_172 nb_dX5_span_0.2.2.2.2.2.2.2.2.1
def fX5_span (N : Nat) (x1 : Int32) (v_high : Int32) (v_wide : Int32) : Option (Int32) :=
    if (4 : Int32) ≤ x1 then
    (some (v_high))
    else (some (v_wide))

set_option maxHeartbeats 4000000 in
set_option maxRecDepth 100000 in
theorem ctX5_span {l : Launch} {D : va_G} {cI cL cS cH : ClassId} {a : Nat → Nat} {x1 : Int32} {v_rows : Int32} {v_cols : Int32} {v_high : Int32} {v_wide : Int32} {v_folds : Int32} {v_wrong : Int32} {v_more : Int32} {v_rowOf : List Int32} {v_colOf : List Int32} {v_below : List Int32} {v_face : List Int32} {v_worn : List Int32} {v_last : List Int32} {v_bend : List Int32} {v_tall : List Int32} {r : Int32} {N d : Nat} (hd : 1 ≤ d) (hf : fX5_span N x1 v_high v_wide = some r) : mm_Ct l yX5_span cX5_span 2 (some .int) d D (mm_T cI cL cS cH) [.ref (a 0), .int x1] (wd_X5 cI cL cS cH a v_rows v_cols v_high v_wide v_folds v_wrong v_more v_rowOf v_colOf v_below v_face v_worn v_last v_bend v_tall) (wd_X5 cI cL cS cH a v_rows v_cols v_high v_wide v_folds v_wrong v_more v_rowOf v_colOf v_below v_face v_worn v_last v_bend v_tall) (some (.int r)) := by
  refine mm_of (by decide) (Nat.le_of_ble_eq_true rfl) ?_
  intro p e s m args below meth c A H locs ls C0 hP hD hA hS hl
  have C0 : mm_Cx p s m args meth c RX5 cX5_span 2 (some .int) D (mm_T cI cL cS cH) A := C0
  obtain ⟨hx, hb, hml, hown, hts, hr, hlocks, hK, hSt⟩ := id C0
  have hl : lv_has ls 2 [(0, .ref (a 0)), (1, .int x1)] := hl
  unfold fX5_span at hf
  refine lv_iload_n hx hb dX5_span_0 rfl (lv_at hl 1 rfl) ?_
  refine lv_iconst (v := 4) hx hb dX5_span_1 (by decide) ?_
  refine lv_icmp_ge (tgt := 12) hx hb dX5_span_2 (by decide) (fun c_1 => ?_) (fun c_1 => ?_)
  · have hf := mm_ip hf c_1
    refine lv_aload_n hx hb dX5_span_12 rfl (lv_at hl 0 rfl) ?_
    refine mm_get C0 hP iw_X5 0 rfl rfl 2 (by decide) fl_X5_68 rfl dX5_span_13 ?_
    obtain rfl := mm_inj1 hf
    exact mm_iret C0 hP hD hS dX5_span_16
  · have hf := mm_in hf c_1
    refine lv_aload_n hx hb dX5_span_5 rfl (lv_at hl 0 rfl) ?_
    refine mm_get C0 hP iw_X5 0 rfl rfl 3 (by decide) fl_X5_71 rfl dX5_span_6 ?_
    refine lv_goto (tgt := 16) hx hb dX5_span_9 (by decide) ?_
    obtain rfl := mm_inj1 hf
    exact mm_iret C0 hP hD hS dX5_span_16

theorem nb_dX5_hasLine_0 : bls_w cX5_hasLine [(0, [27]), (1, [4]), (2, [161, 0, 16]), (5, [27]), (6, [42]), (7, [28]), (8, [182, 0, 88]), (11, [162, 0, 7]), (14, [4]), (15, [167, 0, 4]), (18, [3]), (19, [172])] := bls_of (by decide +kernel)
theorem dX5_hasLine_0 : decode cX5_hasLine 0 = .ok (.iload_n 1, 1) := op_27 nb_dX5_hasLine_0.1
theorem dX5_hasLine_1 : decode cX5_hasLine 1 = .ok (.iconst 1, 1) := op_4 nb_dX5_hasLine_0.2.1
set_option maxRecDepth 100000 in
theorem dX5_hasLine_2 : decode cX5_hasLine 2 = .ok (.if_icmp .lt 16, 3) := (op_161 nb_dX5_hasLine_0.2.2.1).trans rfl
theorem dX5_hasLine_5 : decode cX5_hasLine 5 = .ok (.iload_n 1, 1) := op_27 nb_dX5_hasLine_0.2.2.2.1
theorem dX5_hasLine_6 : decode cX5_hasLine 6 = .ok (.aload_n 0, 1) := op_42 nb_dX5_hasLine_0.2.2.2.2.1
theorem dX5_hasLine_7 : decode cX5_hasLine 7 = .ok (.iload_n 2, 1) := op_28 nb_dX5_hasLine_0.2.2.2.2.2.1
set_option maxRecDepth 100000 in
theorem dX5_hasLine_8 : decode cX5_hasLine 8 = .ok (.invokevirtual 88, 3) := (op_182 nb_dX5_hasLine_0.2.2.2.2.2.2.1).trans rfl
set_option maxRecDepth 100000 in
theorem dX5_hasLine_11 : decode cX5_hasLine 11 = .ok (.if_icmp .ge 7, 3) := (op_162 nb_dX5_hasLine_0.2.2.2.2.2.2.2.1).trans rfl
theorem dX5_hasLine_14 : decode cX5_hasLine 14 = .ok (.iconst 1, 1) := op_4 nb_dX5_hasLine_0.2.2.2.2.2.2.2.2.1
set_option maxRecDepth 100000 in
theorem dX5_hasLine_15 : decode cX5_hasLine 15 = .ok (.goto 4, 3) := (op_167 nb_dX5_hasLine_0.2.2.2.2.2.2.2.2.2.1).trans rfl
theorem dX5_hasLine_18 : decode cX5_hasLine 18 = .ok (.iconst 0, 1) := op_3 nb_dX5_hasLine_0.2.2.2.2.2.2.2.2.2.2.1
theorem dX5_hasLine_19 : decode cX5_hasLine 19 = .ok (.ireturn, 1) := op_172 nb_dX5_hasLine_0.2.2.2.2.2.2.2.2.2.2.2.1
def fX5_hasLine (N : Nat) (x1 : Int32) (x2 : Int32) (v_high : Int32) (v_wide : Int32) : Option (Bool) :=
    if x1 < (1 : Int32) then
    (some (false))
    else (mm_bd1 (fX5_span N x2 v_high v_wide) (fun (r_2 : Int32) =>
    if r_2 ≤ x1 then
    (some (false))
    else (some (true))))

set_option maxHeartbeats 4000000 in
set_option maxRecDepth 100000 in
theorem ctX5_hasLine {l : Launch} {D : va_G} {cI cL cS cH : ClassId} {a : Nat → Nat} {x1 : Int32} {x2 : Int32} {v_rows : Int32} {v_cols : Int32} {v_high : Int32} {v_wide : Int32} {v_folds : Int32} {v_wrong : Int32} {v_more : Int32} {v_rowOf : List Int32} {v_colOf : List Int32} {v_below : List Int32} {v_face : List Int32} {v_worn : List Int32} {v_last : List Int32} {v_bend : List Int32} {v_tall : List Int32} {r : Bool} {N d : Nat} (hd : 2 ≤ d) (hf : fX5_hasLine N x1 x2 v_high v_wide = some r) : mm_Ct l yX5_hasLine cX5_hasLine 3 (some .boolean) d D (mm_T cI cL cS cH) [.ref (a 0), .int x1, .int x2] (wd_X5 cI cL cS cH a v_rows v_cols v_high v_wide v_folds v_wrong v_more v_rowOf v_colOf v_below v_face v_worn v_last v_bend v_tall) (wd_X5 cI cL cS cH a v_rows v_cols v_high v_wide v_folds v_wrong v_more v_rowOf v_colOf v_below v_face v_worn v_last v_bend v_tall) (some (.int (mm_b r))) := by
  refine mm_of (by decide) (Nat.le_of_ble_eq_true rfl) ?_
  intro p e s m args below meth c A H locs ls C0 hP hD hA hS hl
  have C0 : mm_Cx p s m args meth c RX5 cX5_hasLine 3 (some .boolean) D (mm_T cI cL cS cH) A := C0
  obtain ⟨hx, hb, hml, hown, hts, hr, hlocks, hK, hSt⟩ := id C0
  have hl : lv_has ls 3 [(0, .ref (a 0)), (1, .int x1), (2, .int x2)] := hl
  unfold fX5_hasLine at hf
  refine lv_iload_n hx hb dX5_hasLine_0 rfl (lv_at hl 1 rfl) ?_
  refine lv_iconst (v := 1) hx hb dX5_hasLine_1 (by decide) ?_
  refine lv_icmp_lt (tgt := 18) hx hb dX5_hasLine_2 (by decide) (fun c_1 => ?_) (fun c_1 => ?_)
  · have hf := mm_ip hf c_1
    refine lv_iconst (v := 0) hx hb dX5_hasLine_18 (by decide) ?_
    obtain rfl := mm_inj1 hf
    exact mm_zret (v := false) C0 hP hD hS dX5_hasLine_19 (by decide)
  · have hf := mm_in hf c_1
    refine lv_iload_n hx hb dX5_hasLine_5 rfl (lv_at hl 1 rfl) ?_
    refine lv_aload_n hx hb dX5_hasLine_6 rfl (lv_at hl 0 rfl) ?_
    refine lv_iload_n hx hb dX5_hasLine_7 rfl (lv_at hl 2 rfl) ?_
    obtain ⟨r_2, hc_3, hf⟩ := mm_bd1s hf
    refine mm_callVF (q0 := 0) (ci := 5) (rest := [.int x1]) C0 lk_X5_88 (ctX5_span (a := a) (d := d - 1) (by omega) hc_3) (by omega) rfl hl.1 rfl (mm_cat rfl) dX5_hasLine_8 hP hD hA hS rfl rfl (fun H locs hP hD hS => ?_)
    refine W.eq (g2 := F0 m 11 ls [.int r_2, .int x1]) rfl ?_
    refine lv_icmp_ge (tgt := 18) hx hb dX5_hasLine_11 (by decide) (fun c_4 => ?_) (fun c_4 => ?_)
    · have hf := mm_ip hf c_4
      refine lv_iconst (v := 0) hx hb dX5_hasLine_18 (by decide) ?_
      obtain rfl := mm_inj1 hf
      exact mm_zret (v := false) C0 hP hD hS dX5_hasLine_19 (by decide)
    · have hf := mm_in hf c_4
      refine lv_iconst (v := 1) hx hb dX5_hasLine_14 (by decide) ?_
      refine lv_goto (tgt := 19) hx hb dX5_hasLine_15 (by decide) ?_
      obtain rfl := mm_inj1 hf
      exact mm_zret (v := true) C0 hP hD hS dX5_hasLine_19 (by decide)

theorem nb_dX5_spanBehind_0 : bls_w cX5_spanBehind [(0, [27]), (1, [42]), (2, [28]), (3, [182, 0, 88]), (6, [27]), (7, [100]), (8, [184, 0, 92]), (11, [172])] := bls_of (by decide +kernel)
theorem dX5_spanBehind_0 : decode cX5_spanBehind 0 = .ok (.iload_n 1, 1) := op_27 nb_dX5_spanBehind_0.1
theorem dX5_spanBehind_1 : decode cX5_spanBehind 1 = .ok (.aload_n 0, 1) := op_42 nb_dX5_spanBehind_0.2.1
theorem dX5_spanBehind_2 : decode cX5_spanBehind 2 = .ok (.iload_n 2, 1) := op_28 nb_dX5_spanBehind_0.2.2.1
set_option maxRecDepth 100000 in
theorem dX5_spanBehind_3 : decode cX5_spanBehind 3 = .ok (.invokevirtual 88, 3) := (op_182 nb_dX5_spanBehind_0.2.2.2.1).trans rfl
theorem dX5_spanBehind_6 : decode cX5_spanBehind 6 = .ok (.iload_n 1, 1) := op_27 nb_dX5_spanBehind_0.2.2.2.2.1
theorem dX5_spanBehind_7 : decode cX5_spanBehind 7 = .ok (.isub, 1) := op_100 nb_dX5_spanBehind_0.2.2.2.2.2.1
set_option maxRecDepth 100000 in
theorem dX5_spanBehind_8 : decode cX5_spanBehind 8 = .ok (.invokestatic 92, 3) := (op_184 nb_dX5_spanBehind_0.2.2.2.2.2.2.1).trans rfl
theorem dX5_spanBehind_11 : decode cX5_spanBehind 11 = .ok (.ireturn, 1) := op_172 nb_dX5_spanBehind_0.2.2.2.2.2.2.2.1
def fX5_spanBehind (N : Nat) (x1 : Int32) (x2 : Int32) (v_high : Int32) (v_wide : Int32) : Option (Int32) :=
    mm_bd1 (fX5_span N x2 v_high v_wide) (fun (r_1 : Int32) =>
    some ((mm_max x1 (r_1 - x1))))

set_option maxHeartbeats 4000000 in
set_option maxRecDepth 100000 in
theorem ctX5_spanBehind {l : Launch} {D : va_G} {cI cL cS cH : ClassId} {a : Nat → Nat} {x1 : Int32} {x2 : Int32} {v_rows : Int32} {v_cols : Int32} {v_high : Int32} {v_wide : Int32} {v_folds : Int32} {v_wrong : Int32} {v_more : Int32} {v_rowOf : List Int32} {v_colOf : List Int32} {v_below : List Int32} {v_face : List Int32} {v_worn : List Int32} {v_last : List Int32} {v_bend : List Int32} {v_tall : List Int32} {r : Int32} {N d : Nat} (hd : 2 ≤ d) (hf : fX5_spanBehind N x1 x2 v_high v_wide = some r) : mm_Ct l yX5_spanBehind cX5_spanBehind 3 (some .int) d D (mm_T cI cL cS cH) [.ref (a 0), .int x1, .int x2] (wd_X5 cI cL cS cH a v_rows v_cols v_high v_wide v_folds v_wrong v_more v_rowOf v_colOf v_below v_face v_worn v_last v_bend v_tall) (wd_X5 cI cL cS cH a v_rows v_cols v_high v_wide v_folds v_wrong v_more v_rowOf v_colOf v_below v_face v_worn v_last v_bend v_tall) (some (.int r)) := by
  refine mm_of (by decide) (Nat.le_of_ble_eq_true rfl) ?_
  intro p e s m args below meth c A H locs ls C0 hP hD hA hS hl
  have C0 : mm_Cx p s m args meth c RX5 cX5_spanBehind 3 (some .int) D (mm_T cI cL cS cH) A := C0
  obtain ⟨hx, hb, hml, hown, hts, hr, hlocks, hK, hSt⟩ := id C0
  have hl : lv_has ls 3 [(0, .ref (a 0)), (1, .int x1), (2, .int x2)] := hl
  unfold fX5_spanBehind at hf
  refine lv_iload_n hx hb dX5_spanBehind_0 rfl (lv_at hl 1 rfl) ?_
  refine lv_aload_n hx hb dX5_spanBehind_1 rfl (lv_at hl 0 rfl) ?_
  refine lv_iload_n hx hb dX5_spanBehind_2 rfl (lv_at hl 2 rfl) ?_
  obtain ⟨r_1, hc_2, hf⟩ := mm_bd1s hf
  refine mm_callVF (q0 := 0) (ci := 5) (rest := [.int x1]) C0 lk_X5_88 (ctX5_span (a := a) (d := d - 1) (by omega) hc_2) (by omega) rfl hl.1 rfl (mm_cat rfl) dX5_spanBehind_3 hP hD hA hS rfl rfl (fun H locs hP hD hS => ?_)
  refine W.eq (g2 := F0 m 6 ls [.int r_1, .int x1]) rfl ?_
  refine lv_iload_n hx hb dX5_spanBehind_6 rfl (lv_at hl 1 rfl) ?_
  refine lv_isub hx hb dX5_spanBehind_7 ?_
  refine mm_mmax C0 lm_X5_92 (by omega) hl.1 (mm_cat rfl) dX5_spanBehind_8 ?_
  obtain rfl := mm_inj1 hf
  exact mm_iret C0 hP hD hS dX5_spanBehind_11

theorem nb_dX5_neighbour_0 : bls_w cX5_neighbour [(0, [42]), (1, [27]), (2, [182, 0, 98]), (5, [154, 0, 5]), (8, [2]), (9, [172]), (10, [28]), (11, [154, 0, 26]), (14, [27]), (15, [42]), (16, [180, 0, 44]), (19, [112])] := bls_of (by decide +kernel)
theorem dX5_neighbour_0 : decode cX5_neighbour 0 = .ok (.aload_n 0, 1) := op_42 nb_dX5_neighbour_0.1
theorem dX5_neighbour_1 : decode cX5_neighbour 1 = .ok (.iload_n 1, 1) := op_27 nb_dX5_neighbour_0.2.1
set_option maxRecDepth 100000 in
theorem dX5_neighbour_2 : decode cX5_neighbour 2 = .ok (.invokevirtual 98, 3) := (op_182 nb_dX5_neighbour_0.2.2.1).trans rfl
set_option maxRecDepth 100000 in
theorem dX5_neighbour_5 : decode cX5_neighbour 5 = .ok (.ifCond .ne 5, 3) := (op_154 nb_dX5_neighbour_0.2.2.2.1).trans rfl
theorem dX5_neighbour_8 : decode cX5_neighbour 8 = .ok (.iconst (-1), 1) := op_2 nb_dX5_neighbour_0.2.2.2.2.1
theorem dX5_neighbour_9 : decode cX5_neighbour 9 = .ok (.ireturn, 1) := op_172 nb_dX5_neighbour_0.2.2.2.2.2.1
theorem dX5_neighbour_10 : decode cX5_neighbour 10 = .ok (.iload_n 2, 1) := op_28 nb_dX5_neighbour_0.2.2.2.2.2.2.1
set_option maxRecDepth 100000 in
theorem dX5_neighbour_11 : decode cX5_neighbour 11 = .ok (.ifCond .ne 26, 3) := (op_154 nb_dX5_neighbour_0.2.2.2.2.2.2.2.1).trans rfl
theorem dX5_neighbour_14 : decode cX5_neighbour 14 = .ok (.iload_n 1, 1) := op_27 nb_dX5_neighbour_0.2.2.2.2.2.2.2.2.1
theorem dX5_neighbour_15 : decode cX5_neighbour 15 = .ok (.aload_n 0, 1) := op_42 nb_dX5_neighbour_0.2.2.2.2.2.2.2.2.2.1
set_option maxRecDepth 100000 in
theorem dX5_neighbour_16 : decode cX5_neighbour 16 = .ok (.getfield 44, 3) := (op_180 nb_dX5_neighbour_0.2.2.2.2.2.2.2.2.2.2.1).trans rfl
theorem dX5_neighbour_19 : decode cX5_neighbour 19 = .ok (.irem, 1) := op_112 nb_dX5_neighbour_0.2.2.2.2.2.2.2.2.2.2.2.1
theorem nb_dX5_neighbour_20 : bls_w cX5_neighbour [(20, [42]), (21, [180, 0, 44]), (24, [4]), (25, [100]), (26, [162, 0, 9]), (29, [27]), (30, [4]), (31, [96]), (32, [167, 0, 4]), (35, [2]), (36, [172]), (37, [28])] := bls_of (by decide +kernel)
theorem dX5_neighbour_20 : decode cX5_neighbour 20 = .ok (.aload_n 0, 1) := op_42 nb_dX5_neighbour_20.1
set_option maxRecDepth 100000 in
theorem dX5_neighbour_21 : decode cX5_neighbour 21 = .ok (.getfield 44, 3) := (op_180 nb_dX5_neighbour_20.2.1).trans rfl
theorem dX5_neighbour_24 : decode cX5_neighbour 24 = .ok (.iconst 1, 1) := op_4 nb_dX5_neighbour_20.2.2.1
theorem dX5_neighbour_25 : decode cX5_neighbour 25 = .ok (.isub, 1) := op_100 nb_dX5_neighbour_20.2.2.2.1
set_option maxRecDepth 100000 in
theorem dX5_neighbour_26 : decode cX5_neighbour 26 = .ok (.if_icmp .ge 9, 3) := (op_162 nb_dX5_neighbour_20.2.2.2.2.1).trans rfl
theorem dX5_neighbour_29 : decode cX5_neighbour 29 = .ok (.iload_n 1, 1) := op_27 nb_dX5_neighbour_20.2.2.2.2.2.1
theorem dX5_neighbour_30 : decode cX5_neighbour 30 = .ok (.iconst 1, 1) := op_4 nb_dX5_neighbour_20.2.2.2.2.2.2.1
theorem dX5_neighbour_31 : decode cX5_neighbour 31 = .ok (.iadd, 1) := op_96 nb_dX5_neighbour_20.2.2.2.2.2.2.2.1
set_option maxRecDepth 100000 in
theorem dX5_neighbour_32 : decode cX5_neighbour 32 = .ok (.goto 4, 3) := (op_167 nb_dX5_neighbour_20.2.2.2.2.2.2.2.2.1).trans rfl
theorem dX5_neighbour_35 : decode cX5_neighbour 35 = .ok (.iconst (-1), 1) := op_2 nb_dX5_neighbour_20.2.2.2.2.2.2.2.2.2.1
theorem dX5_neighbour_36 : decode cX5_neighbour 36 = .ok (.ireturn, 1) := op_172 nb_dX5_neighbour_20.2.2.2.2.2.2.2.2.2.2.1
theorem dX5_neighbour_37 : decode cX5_neighbour 37 = .ok (.iload_n 2, 1) := op_28 nb_dX5_neighbour_20.2.2.2.2.2.2.2.2.2.2.2.1
theorem nb_dX5_neighbour_38 : bls_w cX5_neighbour [(38, [4]), (39, [160, 0, 25]), (42, [27]), (43, [42]), (44, [180, 0, 44]), (47, [96]), (48, [42]), (49, [182, 0, 84]), (52, [162, 0, 12]), (55, [27]), (56, [42]), (57, [180, 0, 44])] := bls_of (by decide +kernel)
theorem dX5_neighbour_38 : decode cX5_neighbour 38 = .ok (.iconst 1, 1) := op_4 nb_dX5_neighbour_38.1
set_option maxRecDepth 100000 in
theorem dX5_neighbour_39 : decode cX5_neighbour 39 = .ok (.if_icmp .ne 25, 3) := (op_160 nb_dX5_neighbour_38.2.1).trans rfl
theorem dX5_neighbour_42 : decode cX5_neighbour 42 = .ok (.iload_n 1, 1) := op_27 nb_dX5_neighbour_38.2.2.1
theorem dX5_neighbour_43 : decode cX5_neighbour 43 = .ok (.aload_n 0, 1) := op_42 nb_dX5_neighbour_38.2.2.2.1
set_option maxRecDepth 100000 in
theorem dX5_neighbour_44 : decode cX5_neighbour 44 = .ok (.getfield 44, 3) := (op_180 nb_dX5_neighbour_38.2.2.2.2.1).trans rfl
theorem dX5_neighbour_47 : decode cX5_neighbour 47 = .ok (.iadd, 1) := op_96 nb_dX5_neighbour_38.2.2.2.2.2.1
theorem dX5_neighbour_48 : decode cX5_neighbour 48 = .ok (.aload_n 0, 1) := op_42 nb_dX5_neighbour_38.2.2.2.2.2.2.1
set_option maxRecDepth 100000 in
theorem dX5_neighbour_49 : decode cX5_neighbour 49 = .ok (.invokevirtual 84, 3) := (op_182 nb_dX5_neighbour_38.2.2.2.2.2.2.2.1).trans rfl
set_option maxRecDepth 100000 in
theorem dX5_neighbour_52 : decode cX5_neighbour 52 = .ok (.if_icmp .ge 12, 3) := (op_162 nb_dX5_neighbour_38.2.2.2.2.2.2.2.2.1).trans rfl
theorem dX5_neighbour_55 : decode cX5_neighbour 55 = .ok (.iload_n 1, 1) := op_27 nb_dX5_neighbour_38.2.2.2.2.2.2.2.2.2.1
theorem dX5_neighbour_56 : decode cX5_neighbour 56 = .ok (.aload_n 0, 1) := op_42 nb_dX5_neighbour_38.2.2.2.2.2.2.2.2.2.2.1
set_option maxRecDepth 100000 in
theorem dX5_neighbour_57 : decode cX5_neighbour 57 = .ok (.getfield 44, 3) := (op_180 nb_dX5_neighbour_38.2.2.2.2.2.2.2.2.2.2.2.1).trans rfl
theorem nb_dX5_neighbour_60 : bls_w cX5_neighbour [(60, [96]), (61, [167, 0, 4]), (64, [2]), (65, [172])] := bls_of (by decide +kernel)
theorem dX5_neighbour_60 : decode cX5_neighbour 60 = .ok (.iadd, 1) := op_96 nb_dX5_neighbour_60.1
set_option maxRecDepth 100000 in
theorem dX5_neighbour_61 : decode cX5_neighbour 61 = .ok (.goto 4, 3) := (op_167 nb_dX5_neighbour_60.2.1).trans rfl
theorem dX5_neighbour_64 : decode cX5_neighbour 64 = .ok (.iconst (-1), 1) := op_2 nb_dX5_neighbour_60.2.2.1
theorem dX5_neighbour_65 : decode cX5_neighbour 65 = .ok (.ireturn, 1) := op_172 nb_dX5_neighbour_60.2.2.2.1
def fX5_neighbour (N : Nat) (x1 : Int32) (x2 : Int32) (v_rows : Int32) (v_cols : Int32) : Option (Int32) :=
    mm_bd1 (fX5_hasField N x1 v_rows v_cols) (fun (r_1 : Bool) =>
    if r_1 = false then
    (some ((-1 : Int32)))
    else (if x2 = 0 then
    (mm_ck (mm_nz v_cols) (if (v_cols - (1 : Int32)) ≤ (mm_rem x1 v_cols) then
    (some ((-1 : Int32)))
    else (some ((x1 + (1 : Int32))))))
    else (if x2 = (1 : Int32) then
    (mm_bd1 (fX5_fields N v_rows v_cols) (fun (r_6 : Int32) =>
    if r_6 ≤ (x1 + v_cols) then
    (some ((-1 : Int32)))
    else (some ((x1 + v_cols)))))
    else (some ((-1 : Int32))))))

set_option maxHeartbeats 4000000 in
set_option maxRecDepth 100000 in
theorem ctX5_neighbour {l : Launch} {D : va_G} {cI cL cS cH : ClassId} {a : Nat → Nat} {x1 : Int32} {x2 : Int32} {v_rows : Int32} {v_cols : Int32} {v_high : Int32} {v_wide : Int32} {v_folds : Int32} {v_wrong : Int32} {v_more : Int32} {v_rowOf : List Int32} {v_colOf : List Int32} {v_below : List Int32} {v_face : List Int32} {v_worn : List Int32} {v_last : List Int32} {v_bend : List Int32} {v_tall : List Int32} {r : Int32} {N d : Nat} (hd : 3 ≤ d) (hf : fX5_neighbour N x1 x2 v_rows v_cols = some r) : mm_Ct l yX5_neighbour cX5_neighbour 3 (some .int) d D (mm_T cI cL cS cH) [.ref (a 0), .int x1, .int x2] (wd_X5 cI cL cS cH a v_rows v_cols v_high v_wide v_folds v_wrong v_more v_rowOf v_colOf v_below v_face v_worn v_last v_bend v_tall) (wd_X5 cI cL cS cH a v_rows v_cols v_high v_wide v_folds v_wrong v_more v_rowOf v_colOf v_below v_face v_worn v_last v_bend v_tall) (some (.int r)) := by
  refine mm_of (by decide) (Nat.le_of_ble_eq_true rfl) ?_
  intro p e s m args below meth c A H locs ls C0 hP hD hA hS hl
  have C0 : mm_Cx p s m args meth c RX5 cX5_neighbour 3 (some .int) D (mm_T cI cL cS cH) A := C0
  obtain ⟨hx, hb, hml, hown, hts, hr, hlocks, hK, hSt⟩ := id C0
  have hl : lv_has ls 3 [(0, .ref (a 0)), (1, .int x1), (2, .int x2)] := hl
  unfold fX5_neighbour at hf
  refine lv_aload_n hx hb dX5_neighbour_0 rfl (lv_at hl 0 rfl) ?_
  refine lv_iload_n hx hb dX5_neighbour_1 rfl (lv_at hl 1 rfl) ?_
  obtain ⟨r_1, hc_2, hf⟩ := mm_bd1s hf
  refine mm_callVF (q0 := 0) (ci := 5) (rest := []) C0 lk_X5_98 (ctX5_hasField (a := a) (d := d - 1) (by omega) hc_2) (by omega) rfl hl.1 rfl (mm_cat rfl) dX5_neighbour_2 hP hD hA hS rfl rfl (fun H locs hP hD hS => ?_)
  refine W.eq (g2 := F0 m 5 ls [.int (mm_b r_1)]) rfl ?_
  refine lv_if_ne (tgt := 10) hx hb dX5_neighbour_5 (by decide) (fun c_3 => ?_) (fun c_3 => ?_)
  · have hf := mm_in hf (mm_b1 c_3)
    refine lv_iload_n hx hb dX5_neighbour_10 rfl (lv_at hl 2 rfl) ?_
    refine lv_if_ne (tgt := 37) hx hb dX5_neighbour_11 (by decide) (fun c_4 => ?_) (fun c_4 => ?_)
    · have hf := mm_in hf c_4
      refine lv_iload_n hx hb dX5_neighbour_37 rfl (lv_at hl 2 rfl) ?_
      refine lv_iconst (v := 1) hx hb dX5_neighbour_38 (by decide) ?_
      refine lv_icmp_ne (tgt := 64) hx hb dX5_neighbour_39 (by decide) (fun c_5 => ?_) (fun c_5 => ?_)
      · have hf := mm_in hf c_5
        refine lv_iconst (v := -1) hx hb dX5_neighbour_64 (by decide) ?_
        obtain rfl := mm_inj1 hf
        exact mm_iret C0 hP hD hS dX5_neighbour_65
      · have hf := mm_ip hf c_5
        refine lv_iload_n hx hb dX5_neighbour_42 rfl (lv_at hl 1 rfl) ?_
        refine lv_aload_n hx hb dX5_neighbour_43 rfl (lv_at hl 0 rfl) ?_
        refine mm_get C0 hP iw_X5 0 rfl rfl 1 (by decide) fl_X5_44 rfl dX5_neighbour_44 ?_
        refine lv_iadd hx hb dX5_neighbour_47 ?_
        refine lv_aload_n hx hb dX5_neighbour_48 rfl (lv_at hl 0 rfl) ?_
        obtain ⟨r_6, hc_7, hf⟩ := mm_bd1s hf
        refine mm_callVF (q0 := 0) (ci := 5) (rest := [.int (x1 + v_cols)]) C0 lk_X5_84 (ctX5_fields (a := a) (d := d - 1) (by omega) hc_7) (by omega) rfl hl.1 rfl (mm_cat rfl) dX5_neighbour_49 hP hD hA hS rfl rfl (fun H locs hP hD hS => ?_)
        refine W.eq (g2 := F0 m 52 ls [.int r_6, .int (x1 + v_cols)]) rfl ?_
        refine lv_icmp_ge (tgt := 64) hx hb dX5_neighbour_52 (by decide) (fun c_8 => ?_) (fun c_8 => ?_)
        · have hf := mm_ip hf c_8
          refine lv_iconst (v := -1) hx hb dX5_neighbour_64 (by decide) ?_
          obtain rfl := mm_inj1 hf
          exact mm_iret C0 hP hD hS dX5_neighbour_65
        · have hf := mm_in hf c_8
          refine lv_iload_n hx hb dX5_neighbour_55 rfl (lv_at hl 1 rfl) ?_
          refine lv_aload_n hx hb dX5_neighbour_56 rfl (lv_at hl 0 rfl) ?_
          refine mm_get C0 hP iw_X5 0 rfl rfl 1 (by decide) fl_X5_44 rfl dX5_neighbour_57 ?_
          refine lv_iadd hx hb dX5_neighbour_60 ?_
          refine lv_goto (tgt := 65) hx hb dX5_neighbour_61 (by decide) ?_
          obtain rfl := mm_inj1 hf
          exact mm_iret C0 hP hD hS dX5_neighbour_65
    · have hf := mm_ip hf c_4
      refine lv_iload_n hx hb dX5_neighbour_14 rfl (lv_at hl 1 rfl) ?_
      refine lv_aload_n hx hb dX5_neighbour_15 rfl (lv_at hl 0 rfl) ?_
      refine mm_get C0 hP iw_X5 0 rfl rfl 1 (by decide) fl_X5_44 rfl dX5_neighbour_16 ?_
      obtain ⟨h_9, hf⟩ := mm_cks hf
      refine lv_irem hx hb dX5_neighbour_19 (mm_nzs h_9) ?_
      refine lv_aload_n hx hb dX5_neighbour_20 rfl (lv_at hl 0 rfl) ?_
      refine mm_get C0 hP iw_X5 0 rfl rfl 1 (by decide) fl_X5_44 rfl dX5_neighbour_21 ?_
      refine lv_iconst (v := 1) hx hb dX5_neighbour_24 (by decide) ?_
      refine lv_isub hx hb dX5_neighbour_25 ?_
      refine lv_icmp_ge (tgt := 35) hx hb dX5_neighbour_26 (by decide) (fun c_10 => ?_) (fun c_10 => ?_)
      · have hf := mm_ip hf c_10
        refine lv_iconst (v := -1) hx hb dX5_neighbour_35 (by decide) ?_
        obtain rfl := mm_inj1 hf
        exact mm_iret C0 hP hD hS dX5_neighbour_36
      · have hf := mm_in hf c_10
        refine lv_iload_n hx hb dX5_neighbour_29 rfl (lv_at hl 1 rfl) ?_
        refine lv_iconst (v := 1) hx hb dX5_neighbour_30 (by decide) ?_
        refine lv_iadd hx hb dX5_neighbour_31 ?_
        refine lv_goto (tgt := 36) hx hb dX5_neighbour_32 (by decide) ?_
        obtain rfl := mm_inj1 hf
        exact mm_iret C0 hP hD hS dX5_neighbour_36
  · have hf := mm_ip hf (mm_b0 c_3)
    refine lv_iconst (v := -1) hx hb dX5_neighbour_8 (by decide) ?_
    obtain rfl := mm_inj1 hf
    exact mm_iret C0 hP hD hS dX5_neighbour_9

theorem dX5_placeOf_11 : decode cX5_placeOf 11 = .ok (.tableswitch 57 0 3 #[29, 36, 43, 50], 29) := by decide +kernel
theorem nb_dX5_placeOf_0 : bls_w cX5_placeOf [(0, [42]), (1, [27]), (2, [182, 0, 98]), (5, [154, 0, 5]), (8, [2]), (9, [172]), (10, [28]), (40, [42]), (41, [180, 0, 9]), (44, [27]), (45, [46]), (46, [172])] := bls_of (by decide +kernel)
theorem dX5_placeOf_0 : decode cX5_placeOf 0 = .ok (.aload_n 0, 1) := op_42 nb_dX5_placeOf_0.1
theorem dX5_placeOf_1 : decode cX5_placeOf 1 = .ok (.iload_n 1, 1) := op_27 nb_dX5_placeOf_0.2.1
set_option maxRecDepth 100000 in
theorem dX5_placeOf_2 : decode cX5_placeOf 2 = .ok (.invokevirtual 98, 3) := (op_182 nb_dX5_placeOf_0.2.2.1).trans rfl
set_option maxRecDepth 100000 in
theorem dX5_placeOf_5 : decode cX5_placeOf 5 = .ok (.ifCond .ne 5, 3) := (op_154 nb_dX5_placeOf_0.2.2.2.1).trans rfl
theorem dX5_placeOf_8 : decode cX5_placeOf 8 = .ok (.iconst (-1), 1) := op_2 nb_dX5_placeOf_0.2.2.2.2.1
theorem dX5_placeOf_9 : decode cX5_placeOf 9 = .ok (.ireturn, 1) := op_172 nb_dX5_placeOf_0.2.2.2.2.2.1
theorem dX5_placeOf_10 : decode cX5_placeOf 10 = .ok (.iload_n 2, 1) := op_28 nb_dX5_placeOf_0.2.2.2.2.2.2.1
theorem dX5_placeOf_40 : decode cX5_placeOf 40 = .ok (.aload_n 0, 1) := op_42 nb_dX5_placeOf_0.2.2.2.2.2.2.2.1
set_option maxRecDepth 100000 in
theorem dX5_placeOf_41 : decode cX5_placeOf 41 = .ok (.getfield 9, 3) := (op_180 nb_dX5_placeOf_0.2.2.2.2.2.2.2.2.1).trans rfl
theorem dX5_placeOf_44 : decode cX5_placeOf 44 = .ok (.iload_n 1, 1) := op_27 nb_dX5_placeOf_0.2.2.2.2.2.2.2.2.2.1
theorem dX5_placeOf_45 : decode cX5_placeOf 45 = .ok (.iaload, 1) := op_46 nb_dX5_placeOf_0.2.2.2.2.2.2.2.2.2.2.1
theorem dX5_placeOf_46 : decode cX5_placeOf 46 = .ok (.ireturn, 1) := op_172 nb_dX5_placeOf_0.2.2.2.2.2.2.2.2.2.2.2.1
theorem nb_dX5_placeOf_47 : bls_w cX5_placeOf [(47, [42]), (48, [180, 0, 15]), (51, [27]), (52, [46]), (53, [172]), (54, [42]), (55, [180, 0, 18]), (58, [27]), (59, [46]), (60, [172]), (61, [42]), (62, [180, 0, 21])] := bls_of (by decide +kernel)
theorem dX5_placeOf_47 : decode cX5_placeOf 47 = .ok (.aload_n 0, 1) := op_42 nb_dX5_placeOf_47.1
set_option maxRecDepth 100000 in
theorem dX5_placeOf_48 : decode cX5_placeOf 48 = .ok (.getfield 15, 3) := (op_180 nb_dX5_placeOf_47.2.1).trans rfl
theorem dX5_placeOf_51 : decode cX5_placeOf 51 = .ok (.iload_n 1, 1) := op_27 nb_dX5_placeOf_47.2.2.1
theorem dX5_placeOf_52 : decode cX5_placeOf 52 = .ok (.iaload, 1) := op_46 nb_dX5_placeOf_47.2.2.2.1
theorem dX5_placeOf_53 : decode cX5_placeOf 53 = .ok (.ireturn, 1) := op_172 nb_dX5_placeOf_47.2.2.2.2.1
theorem dX5_placeOf_54 : decode cX5_placeOf 54 = .ok (.aload_n 0, 1) := op_42 nb_dX5_placeOf_47.2.2.2.2.2.1
set_option maxRecDepth 100000 in
theorem dX5_placeOf_55 : decode cX5_placeOf 55 = .ok (.getfield 18, 3) := (op_180 nb_dX5_placeOf_47.2.2.2.2.2.2.1).trans rfl
theorem dX5_placeOf_58 : decode cX5_placeOf 58 = .ok (.iload_n 1, 1) := op_27 nb_dX5_placeOf_47.2.2.2.2.2.2.2.1
theorem dX5_placeOf_59 : decode cX5_placeOf 59 = .ok (.iaload, 1) := op_46 nb_dX5_placeOf_47.2.2.2.2.2.2.2.2.1
theorem dX5_placeOf_60 : decode cX5_placeOf 60 = .ok (.ireturn, 1) := op_172 nb_dX5_placeOf_47.2.2.2.2.2.2.2.2.2.1
theorem dX5_placeOf_61 : decode cX5_placeOf 61 = .ok (.aload_n 0, 1) := op_42 nb_dX5_placeOf_47.2.2.2.2.2.2.2.2.2.2.1
set_option maxRecDepth 100000 in
theorem dX5_placeOf_62 : decode cX5_placeOf 62 = .ok (.getfield 21, 3) := (op_180 nb_dX5_placeOf_47.2.2.2.2.2.2.2.2.2.2.2.1).trans rfl
theorem nb_dX5_placeOf_65 : bls_w cX5_placeOf [(65, [27]), (66, [46]), (67, [172]), (68, [2]), (69, [172])] := bls_of (by decide +kernel)
theorem dX5_placeOf_65 : decode cX5_placeOf 65 = .ok (.iload_n 1, 1) := op_27 nb_dX5_placeOf_65.1
theorem dX5_placeOf_66 : decode cX5_placeOf 66 = .ok (.iaload, 1) := op_46 nb_dX5_placeOf_65.2.1
theorem dX5_placeOf_67 : decode cX5_placeOf 67 = .ok (.ireturn, 1) := op_172 nb_dX5_placeOf_65.2.2.1
theorem dX5_placeOf_68 : decode cX5_placeOf 68 = .ok (.iconst (-1), 1) := op_2 nb_dX5_placeOf_65.2.2.2.1
theorem dX5_placeOf_69 : decode cX5_placeOf 69 = .ok (.ireturn, 1) := op_172 nb_dX5_placeOf_65.2.2.2.2.1
def fX5_placeOf (N : Nat) (x1 : Int32) (x2 : Int32) (v_rows : Int32) (v_cols : Int32) (v_rowOf : List Int32) (v_colOf : List Int32) (v_below : List Int32) (v_face : List Int32) : Option (Int32) :=
    mm_bd1 (fX5_hasField N x1 v_rows v_cols) (fun (r_1 : Bool) =>
    if r_1 = false then
    (some ((-1 : Int32)))
    else (if x2 = (0 : Int32) then
    (mm_ck (mm_inb x1 v_rowOf.length) (some ((mm_ig v_rowOf x1))))
    else (if x2 = (1 : Int32) then
    (mm_ck (mm_inb x1 v_colOf.length) (some ((mm_ig v_colOf x1))))
    else (if x2 = (2 : Int32) then
    (mm_ck (mm_inb x1 v_below.length) (some ((mm_ig v_below x1))))
    else (if x2 = (3 : Int32) then
    (mm_ck (mm_inb x1 v_face.length) (some ((mm_ig v_face x1))))
    else (some ((-1 : Int32))))))))

set_option maxHeartbeats 4000000 in
set_option maxRecDepth 100000 in
theorem ctX5_placeOf {l : Launch} {D : va_G} {cI cL cS cH : ClassId} {a : Nat → Nat} {x1 : Int32} {x2 : Int32} {v_rows : Int32} {v_cols : Int32} {v_high : Int32} {v_wide : Int32} {v_folds : Int32} {v_wrong : Int32} {v_more : Int32} {v_rowOf : List Int32} {v_colOf : List Int32} {v_below : List Int32} {v_face : List Int32} {v_worn : List Int32} {v_last : List Int32} {v_bend : List Int32} {v_tall : List Int32} {r : Int32} {N d : Nat} (hd : 3 ≤ d) (hf : fX5_placeOf N x1 x2 v_rows v_cols v_rowOf v_colOf v_below v_face = some r) : mm_Ct l yX5_placeOf cX5_placeOf 3 (some .int) d D (mm_T cI cL cS cH) [.ref (a 0), .int x1, .int x2] (wd_X5 cI cL cS cH a v_rows v_cols v_high v_wide v_folds v_wrong v_more v_rowOf v_colOf v_below v_face v_worn v_last v_bend v_tall) (wd_X5 cI cL cS cH a v_rows v_cols v_high v_wide v_folds v_wrong v_more v_rowOf v_colOf v_below v_face v_worn v_last v_bend v_tall) (some (.int r)) := by
  refine mm_of (by decide) (Nat.le_of_ble_eq_true rfl) ?_
  intro p e s m args below meth c A H locs ls C0 hP hD hA hS hl
  have C0 : mm_Cx p s m args meth c RX5 cX5_placeOf 3 (some .int) D (mm_T cI cL cS cH) A := C0
  obtain ⟨hx, hb, hml, hown, hts, hr, hlocks, hK, hSt⟩ := id C0
  have hl : lv_has ls 3 [(0, .ref (a 0)), (1, .int x1), (2, .int x2)] := hl
  unfold fX5_placeOf at hf
  refine lv_aload_n hx hb dX5_placeOf_0 rfl (lv_at hl 0 rfl) ?_
  refine lv_iload_n hx hb dX5_placeOf_1 rfl (lv_at hl 1 rfl) ?_
  obtain ⟨r_1, hc_2, hf⟩ := mm_bd1s hf
  refine mm_callVF (q0 := 0) (ci := 5) (rest := []) C0 lk_X5_98 (ctX5_hasField (a := a) (d := d - 1) (by omega) hc_2) (by omega) rfl hl.1 rfl (mm_cat rfl) dX5_placeOf_2 hP hD hA hS rfl rfl (fun H locs hP hD hS => ?_)
  refine W.eq (g2 := F0 m 5 ls [.int (mm_b r_1)]) rfl ?_
  refine lv_if_ne (tgt := 10) hx hb dX5_placeOf_5 (by decide) (fun c_3 => ?_) (fun c_3 => ?_)
  · have hf := mm_in hf (mm_b1 c_3)
    refine lv_iload_n hx hb dX5_placeOf_10 rfl (lv_at hl 2 rfl) ?_
    by_cases c_4 : x2 = (0 : Int32)
    · have hf := mm_ip hf c_4
      refine lv_tableIn (off := 29) (tgt := 40) hx hb dX5_placeOf_11 (by rw [c_4]; decide) (by rw [c_4]; decide) (by rw [c_4]; first | done | rfl) (by decide) ?_
      refine lv_aload_n hx hb dX5_placeOf_40 rfl (lv_at hl 0 rfl) ?_
      refine mm_get C0 hP iw_X5 0 rfl rfl 7 (by decide) fl_X5_9 rfl dX5_placeOf_41 ?_
      refine lv_iload_n hx hb dX5_placeOf_44 rfl (lv_at hl 1 rfl) ?_
      obtain ⟨h_5, hf⟩ := mm_cks hf
      refine mm_iald C0 hP 1 rfl h_5 dX5_placeOf_45 ?_
      obtain rfl := mm_inj1 hf
      exact mm_iret C0 hP hD hS dX5_placeOf_46
    · have hf := mm_in hf c_4
      by_cases c_6 : x2 = (1 : Int32)
      · have hf := mm_ip hf c_6
        refine lv_tableIn (off := 36) (tgt := 47) hx hb dX5_placeOf_11 (by rw [c_6]; decide) (by rw [c_6]; decide) (by rw [c_6]; first | done | rfl) (by decide) ?_
        refine lv_aload_n hx hb dX5_placeOf_47 rfl (lv_at hl 0 rfl) ?_
        refine mm_get C0 hP iw_X5 0 rfl rfl 8 (by decide) fl_X5_15 rfl dX5_placeOf_48 ?_
        refine lv_iload_n hx hb dX5_placeOf_51 rfl (lv_at hl 1 rfl) ?_
        obtain ⟨h_7, hf⟩ := mm_cks hf
        refine mm_iald C0 hP 2 rfl h_7 dX5_placeOf_52 ?_
        obtain rfl := mm_inj1 hf
        exact mm_iret C0 hP hD hS dX5_placeOf_53
      · have hf := mm_in hf c_6
        by_cases c_8 : x2 = (2 : Int32)
        · have hf := mm_ip hf c_8
          refine lv_tableIn (off := 43) (tgt := 54) hx hb dX5_placeOf_11 (by rw [c_8]; decide) (by rw [c_8]; decide) (by rw [c_8]; first | done | rfl) (by decide) ?_
          refine lv_aload_n hx hb dX5_placeOf_54 rfl (lv_at hl 0 rfl) ?_
          refine mm_get C0 hP iw_X5 0 rfl rfl 9 (by decide) fl_X5_18 rfl dX5_placeOf_55 ?_
          refine lv_iload_n hx hb dX5_placeOf_58 rfl (lv_at hl 1 rfl) ?_
          obtain ⟨h_9, hf⟩ := mm_cks hf
          refine mm_iald C0 hP 3 rfl h_9 dX5_placeOf_59 ?_
          obtain rfl := mm_inj1 hf
          exact mm_iret C0 hP hD hS dX5_placeOf_60
        · have hf := mm_in hf c_8
          by_cases c_10 : x2 = (3 : Int32)
          · have hf := mm_ip hf c_10
            refine lv_tableIn (off := 50) (tgt := 61) hx hb dX5_placeOf_11 (by rw [c_10]; decide) (by rw [c_10]; decide) (by rw [c_10]; first | done | rfl) (by decide) ?_
            refine lv_aload_n hx hb dX5_placeOf_61 rfl (lv_at hl 0 rfl) ?_
            refine mm_get C0 hP iw_X5 0 rfl rfl 10 (by decide) fl_X5_21 rfl dX5_placeOf_62 ?_
            refine lv_iload_n hx hb dX5_placeOf_65 rfl (lv_at hl 1 rfl) ?_
            obtain ⟨h_11, hf⟩ := mm_cks hf
            refine mm_iald C0 hP 4 rfl h_11 dX5_placeOf_66 ?_
            obtain rfl := mm_inj1 hf
            exact mm_iret C0 hP hD hS dX5_placeOf_67
          · have hf := mm_in hf c_10
            refine lv_tableOut (tgt := 68) hx hb dX5_placeOf_11 (by have nc_4 := lv_neT c_4 (a := 0) (by decide); have nc_6 := lv_neT c_6 (a := 1) (by decide); have nc_8 := lv_neT c_8 (a := 2) (by decide); have nc_10 := lv_neT c_10 (a := 3) (by decide); omega) (by decide) ?_
            refine lv_iconst (v := -1) hx hb dX5_placeOf_68 (by decide) ?_
            obtain rfl := mm_inj1 hf
            exact mm_iret C0 hP hD hS dX5_placeOf_69
  · have hf := mm_ip hf (mm_b0 c_3)
    refine lv_iconst (v := -1) hx hb dX5_placeOf_8 (by decide) ?_
    obtain rfl := mm_inj1 hf
    exact mm_iret C0 hP hD hS dX5_placeOf_9

theorem nb_dX5_heightAt_0 : bls_w cX5_heightAt [(0, [3]), (1, [62]), (2, [3]), (3, [54, 4]), (5, [21, 4]), (7, [42]), (8, [182, 0, 84]), (11, [162, 0, 34]), (14, [42]), (15, [180, 0, 9]), (18, [21, 4]), (20, [46])] := bls_of (by decide +kernel)
theorem dX5_heightAt_0 : decode cX5_heightAt 0 = .ok (.iconst 0, 1) := op_3 nb_dX5_heightAt_0.1
theorem dX5_heightAt_1 : decode cX5_heightAt 1 = .ok (.istore_n 3, 1) := op_62 nb_dX5_heightAt_0.2.1
theorem dX5_heightAt_2 : decode cX5_heightAt 2 = .ok (.iconst 0, 1) := op_3 nb_dX5_heightAt_0.2.2.1
set_option maxRecDepth 100000 in
theorem dX5_heightAt_3 : decode cX5_heightAt 3 = .ok (.istore 4, 2) := (op_54 nb_dX5_heightAt_0.2.2.2.1).trans rfl
set_option maxRecDepth 100000 in
theorem dX5_heightAt_5 : decode cX5_heightAt 5 = .ok (.iload 4, 2) := (op_21 nb_dX5_heightAt_0.2.2.2.2.1).trans rfl
theorem dX5_heightAt_7 : decode cX5_heightAt 7 = .ok (.aload_n 0, 1) := op_42 nb_dX5_heightAt_0.2.2.2.2.2.1
set_option maxRecDepth 100000 in
theorem dX5_heightAt_8 : decode cX5_heightAt 8 = .ok (.invokevirtual 84, 3) := (op_182 nb_dX5_heightAt_0.2.2.2.2.2.2.1).trans rfl
set_option maxRecDepth 100000 in
theorem dX5_heightAt_11 : decode cX5_heightAt 11 = .ok (.if_icmp .ge 34, 3) := (op_162 nb_dX5_heightAt_0.2.2.2.2.2.2.2.1).trans rfl
theorem dX5_heightAt_14 : decode cX5_heightAt 14 = .ok (.aload_n 0, 1) := op_42 nb_dX5_heightAt_0.2.2.2.2.2.2.2.2.1
set_option maxRecDepth 100000 in
theorem dX5_heightAt_15 : decode cX5_heightAt 15 = .ok (.getfield 9, 3) := (op_180 nb_dX5_heightAt_0.2.2.2.2.2.2.2.2.2.1).trans rfl
set_option maxRecDepth 100000 in
theorem dX5_heightAt_18 : decode cX5_heightAt 18 = .ok (.iload 4, 2) := (op_21 nb_dX5_heightAt_0.2.2.2.2.2.2.2.2.2.2.1).trans rfl
theorem dX5_heightAt_20 : decode cX5_heightAt 20 = .ok (.iaload, 1) := op_46 nb_dX5_heightAt_0.2.2.2.2.2.2.2.2.2.2.2.1
theorem nb_dX5_heightAt_21 : bls_w cX5_heightAt [(21, [27]), (22, [160, 0, 17]), (25, [42]), (26, [180, 0, 15]), (29, [21, 4]), (31, [46]), (32, [28]), (33, [160, 0, 6]), (36, [132, 3, 1]), (39, [132, 4, 1]), (42, [167, 255, 219]), (45, [29])] := bls_of (by decide +kernel)
theorem dX5_heightAt_21 : decode cX5_heightAt 21 = .ok (.iload_n 1, 1) := op_27 nb_dX5_heightAt_21.1
set_option maxRecDepth 100000 in
theorem dX5_heightAt_22 : decode cX5_heightAt 22 = .ok (.if_icmp .ne 17, 3) := (op_160 nb_dX5_heightAt_21.2.1).trans rfl
theorem dX5_heightAt_25 : decode cX5_heightAt 25 = .ok (.aload_n 0, 1) := op_42 nb_dX5_heightAt_21.2.2.1
set_option maxRecDepth 100000 in
theorem dX5_heightAt_26 : decode cX5_heightAt 26 = .ok (.getfield 15, 3) := (op_180 nb_dX5_heightAt_21.2.2.2.1).trans rfl
set_option maxRecDepth 100000 in
theorem dX5_heightAt_29 : decode cX5_heightAt 29 = .ok (.iload 4, 2) := (op_21 nb_dX5_heightAt_21.2.2.2.2.1).trans rfl
theorem dX5_heightAt_31 : decode cX5_heightAt 31 = .ok (.iaload, 1) := op_46 nb_dX5_heightAt_21.2.2.2.2.2.1
theorem dX5_heightAt_32 : decode cX5_heightAt 32 = .ok (.iload_n 2, 1) := op_28 nb_dX5_heightAt_21.2.2.2.2.2.2.1
set_option maxRecDepth 100000 in
theorem dX5_heightAt_33 : decode cX5_heightAt 33 = .ok (.if_icmp .ne 6, 3) := (op_160 nb_dX5_heightAt_21.2.2.2.2.2.2.2.1).trans rfl
set_option maxRecDepth 100000 in
theorem dX5_heightAt_36 : decode cX5_heightAt 36 = .ok (.iinc 3 1, 3) := (op_132 nb_dX5_heightAt_21.2.2.2.2.2.2.2.2.1).trans rfl
set_option maxRecDepth 100000 in
theorem dX5_heightAt_39 : decode cX5_heightAt 39 = .ok (.iinc 4 1, 3) := (op_132 nb_dX5_heightAt_21.2.2.2.2.2.2.2.2.2.1).trans rfl
set_option maxRecDepth 100000 in
theorem dX5_heightAt_42 : decode cX5_heightAt 42 = .ok (.goto (-37), 3) := (op_167 nb_dX5_heightAt_21.2.2.2.2.2.2.2.2.2.2.1).trans rfl
theorem dX5_heightAt_45 : decode cX5_heightAt 45 = .ok (.iload_n 3, 1) := op_29 nb_dX5_heightAt_21.2.2.2.2.2.2.2.2.2.2.2.1
theorem nb_dX5_heightAt_46 : bls_w cX5_heightAt [(46, [172])] := bls_of (by decide +kernel)
theorem dX5_heightAt_46 : decode cX5_heightAt 46 = .ok (.ireturn, 1) := op_172 nb_dX5_heightAt_46.1
def fX5_heightAt_39 (N : Nat) (k_5 : Int32 → Int32 → Int32 → Int32 → Int32 → Int32 → List Int32 → List Int32 → Option (Int32)) (x1 : Int32) (x2 : Int32) (x3 : Int32) (x4 : Int32) (v_rows : Int32) (v_cols : Int32) (v_rowOf : List Int32) (v_colOf : List Int32) : Option (Int32) :=
    mm_nm (x4 + (1 : Int32)) (fun (y_9 : Int32) =>
    k_5 x1 x2 x3 y_9 v_rows v_cols v_rowOf v_colOf)

set_option maxHeartbeats 4000000 in
set_option maxRecDepth 100000 in
theorem tX5_heightAt_39 {p : Program} {l : Launch} {e : Env} {s : State} {m : MethodId} {args : Array Value} {below : List Frame} {meth : Method} {c : Code} {D : va_G} {cI cL cS cH : ClassId} {A : Nat → Prop} {d : Nat} {a : Nat → Nat} (hd : 2 ≤ d) (C0 : mm_Cx p s m args meth c RX5 cX5_heightAt 5 (some .int) D (mm_T cI cL cS cH) A) (hA : ∀ q, s.heap.size ≤ q → A q) {v_high : Int32} {v_wide : Int32} {v_folds : Int32} {v_wrong : Int32} {v_more : Int32} {v_below : List Int32} {v_face : List Int32} {v_worn : List Int32} {v_last : List Int32} {v_bend : List Int32} {v_tall : List Int32} {r : Int32} (N : Nat) {k_5 : Int32 → Int32 → Int32 → Int32 → Int32 → Int32 → List Int32 → List Int32 → Option (Int32)} (hk_5 : ∀ (x1 : Int32) (x2 : Int32) (x3 : Int32) (x4 : Int32) (v_rows : Int32) (v_cols : Int32) (v_rowOf : List Int32) (v_colOf : List Int32) (H : Heap) (locs : List Loc) (ls : Array Slot), k_5 x1 x2 x3 x4 v_rows v_cols v_rowOf v_colOf = some r → va_P D mm_cl (wd_X5 cI cL cS cH a v_rows v_cols v_high v_wide v_folds v_wrong v_more v_rowOf v_colOf v_below v_face v_worn v_last v_bend v_tall) H → va_D A (wd_X5 cI cL cS cH a v_rows v_cols v_high v_wide v_folds v_wrong v_more v_rowOf v_colOf v_below v_face v_worn v_last v_bend v_tall) → va_S A s.heap H locs → lv_has ls 5 [(0, .ref (a 0)), (1, .int x1), (2, .int x2), (3, .int x3), (4, .int x4)] → W p l e (mm_rr d) s m args below meth c H locs 0 0 (mm_Z below D A (wd_X5 cI cL cS cH a v_rows v_cols v_high v_wide v_folds v_wrong v_more v_rowOf v_colOf v_below v_face v_worn v_last v_bend v_tall) (some (.int r)) args s) (F0 m 5 ls [])) : ∀ (x1 : Int32) (x2 : Int32) (x3 : Int32) (x4 : Int32) (v_rows : Int32) (v_cols : Int32) (v_rowOf : List Int32) (v_colOf : List Int32) (H : Heap) (locs : List Loc) (ls : Array Slot), fX5_heightAt_39 N k_5 x1 x2 x3 x4 v_rows v_cols v_rowOf v_colOf = some r → va_P D mm_cl (wd_X5 cI cL cS cH a v_rows v_cols v_high v_wide v_folds v_wrong v_more v_rowOf v_colOf v_below v_face v_worn v_last v_bend v_tall) H → va_D A (wd_X5 cI cL cS cH a v_rows v_cols v_high v_wide v_folds v_wrong v_more v_rowOf v_colOf v_below v_face v_worn v_last v_bend v_tall) → va_S A s.heap H locs → lv_has ls 5 [(0, .ref (a 0)), (1, .int x1), (2, .int x2), (3, .int x3), (4, .int x4)] → W p l e (mm_rr d) s m args below meth c H locs 0 0 (mm_Z below D A (wd_X5 cI cL cS cH a v_rows v_cols v_high v_wide v_folds v_wrong v_more v_rowOf v_colOf v_below v_face v_worn v_last v_bend v_tall) (some (.int r)) args s) (F0 m 39 ls []) := by
  obtain ⟨hx, hb, hml, hown, hts, hr, hlocks, hK, hSt⟩ := id C0
  intro x1 x2 x3 x4 v_rows v_cols v_rowOf v_colOf H locs ls hf hP hD hS hl
  unfold fX5_heightAt_39 at hf
  obtain ⟨y_9, ey_9⟩ : ∃ z : Int32, z = x4 + (1 : Int32) := ⟨_, rfl⟩
  have hf := mm_nms hf ey_9
  refine lv_iinc (v := y_9) (lv' := [(4, .int y_9), (0, .ref (a 0)), (1, .int x1), (2, .int x2), (3, .int x3)]) hx hb dX5_heightAt_39 hl (k := 4) rfl (by rw [ey_9]; rfl) (by decide) rfl (fun ls hl => ?_)
  refine lv_goto (tgt := 5) hx hb dX5_heightAt_42 (by decide) ?_
  exact hk_5 _ _ _ _ _ _ _ _ H locs ls hf hP hD hS (lv_sub hl [1, 2, 3, 4, 0] rfl)

def fX5_heightAt_5 (N : Nat)  : Nat → Int32 → Int32 → Int32 → Int32 → Int32 → Int32 → List Int32 → List Int32 → Option (Int32)
  | 0 => fun _ _ _ _ _ _ _ _ => none
  | n + 1 => fun x1 x2 x3 x4 v_rows v_cols v_rowOf v_colOf =>
    mm_bd1 (fX5_fields N v_rows v_cols) (fun (r_1 : Int32) =>
    if r_1 ≤ x4 then
    (some (x3))
    else (mm_ck (mm_inb x4 v_rowOf.length) (if (mm_ig v_rowOf x4) = x1 then
    (mm_ck (mm_inb x4 v_colOf.length) (if (mm_ig v_colOf x4) = x2 then
    (mm_nm (x3 + (1 : Int32)) (fun (y_8 : Int32) =>
    fX5_heightAt_39 N (fX5_heightAt_5 N n) x1 x2 y_8 x4 v_rows v_cols v_rowOf v_colOf))
    else (fX5_heightAt_39 N (fX5_heightAt_5 N n) x1 x2 x3 x4 v_rows v_cols v_rowOf v_colOf)))
    else (fX5_heightAt_39 N (fX5_heightAt_5 N n) x1 x2 x3 x4 v_rows v_cols v_rowOf v_colOf))))

set_option maxHeartbeats 4000000 in
set_option maxRecDepth 100000 in
theorem tX5_heightAt_5 {p : Program} {l : Launch} {e : Env} {s : State} {m : MethodId} {args : Array Value} {below : List Frame} {meth : Method} {c : Code} {D : va_G} {cI cL cS cH : ClassId} {A : Nat → Prop} {d : Nat} {a : Nat → Nat} (hd : 2 ≤ d) (C0 : mm_Cx p s m args meth c RX5 cX5_heightAt 5 (some .int) D (mm_T cI cL cS cH) A) (hA : ∀ q, s.heap.size ≤ q → A q) {v_high : Int32} {v_wide : Int32} {v_folds : Int32} {v_wrong : Int32} {v_more : Int32} {v_below : List Int32} {v_face : List Int32} {v_worn : List Int32} {v_last : List Int32} {v_bend : List Int32} {v_tall : List Int32} {r : Int32} (N : Nat)  : ∀ (n : Nat), ∀ (x1 : Int32) (x2 : Int32) (x3 : Int32) (x4 : Int32) (v_rows : Int32) (v_cols : Int32) (v_rowOf : List Int32) (v_colOf : List Int32) (H : Heap) (locs : List Loc) (ls : Array Slot), fX5_heightAt_5 N n x1 x2 x3 x4 v_rows v_cols v_rowOf v_colOf = some r → va_P D mm_cl (wd_X5 cI cL cS cH a v_rows v_cols v_high v_wide v_folds v_wrong v_more v_rowOf v_colOf v_below v_face v_worn v_last v_bend v_tall) H → va_D A (wd_X5 cI cL cS cH a v_rows v_cols v_high v_wide v_folds v_wrong v_more v_rowOf v_colOf v_below v_face v_worn v_last v_bend v_tall) → va_S A s.heap H locs → lv_has ls 5 [(0, .ref (a 0)), (1, .int x1), (2, .int x2), (3, .int x3), (4, .int x4)] → W p l e (mm_rr d) s m args below meth c H locs 0 0 (mm_Z below D A (wd_X5 cI cL cS cH a v_rows v_cols v_high v_wide v_folds v_wrong v_more v_rowOf v_colOf v_below v_face v_worn v_last v_bend v_tall) (some (.int r)) args s) (F0 m 5 ls []) := by
  obtain ⟨hx, hb, hml, hown, hts, hr, hlocks, hK, hSt⟩ := id C0
  intro n
  induction n with
  | zero =>
    intro x1 x2 x3 x4 v_rows v_cols v_rowOf v_colOf H locs ls hf
    cases (show none = some _ from hf)
  | succ n ih =>
    intro x1 x2 x3 x4 v_rows v_cols v_rowOf v_colOf H locs ls hf hP hD hS hl
    unfold fX5_heightAt_5 at hf
    refine lv_iload hx hb dX5_heightAt_5 (lv_at hl 4 rfl) ?_
    refine lv_aload_n hx hb dX5_heightAt_7 rfl (lv_at hl 0 rfl) ?_
    obtain ⟨r_1, hc_2, hf⟩ := mm_bd1s hf
    refine mm_callVF (q0 := 0) (ci := 5) (rest := [.int x4]) C0 lk_X5_84 (ctX5_fields (a := a) (d := d - 1) (by omega) hc_2) (by omega) rfl hl.1 rfl (mm_cat rfl) dX5_heightAt_8 hP hD hA hS rfl rfl (fun H locs hP hD hS => ?_)
    refine W.eq (g2 := F0 m 11 ls [.int r_1, .int x4]) rfl ?_
    refine lv_icmp_ge (tgt := 45) hx hb dX5_heightAt_11 (by decide) (fun c_3 => ?_) (fun c_3 => ?_)
    · have hf := mm_ip hf c_3
      refine lv_iload_n hx hb dX5_heightAt_45 rfl (lv_at hl 3 rfl) ?_
      obtain rfl := mm_inj1 hf
      exact mm_iret C0 hP hD hS dX5_heightAt_46
    · have hf := mm_in hf c_3
      refine lv_aload_n hx hb dX5_heightAt_14 rfl (lv_at hl 0 rfl) ?_
      refine mm_get C0 hP iw_X5 0 rfl rfl 7 (by decide) fl_X5_9 rfl dX5_heightAt_15 ?_
      refine lv_iload hx hb dX5_heightAt_18 (lv_at hl 4 rfl) ?_
      obtain ⟨h_4, hf⟩ := mm_cks hf
      refine mm_iald C0 hP 1 rfl h_4 dX5_heightAt_20 ?_
      refine lv_iload_n hx hb dX5_heightAt_21 rfl (lv_at hl 1 rfl) ?_
      refine lv_icmp_ne (tgt := 39) hx hb dX5_heightAt_22 (by decide) (fun c_5 => ?_) (fun c_5 => ?_)
      · have hf := mm_in hf c_5
        exact tX5_heightAt_39 hd C0 hA N ih _ _ _ _ _ _ _ _ H locs ls hf hP hD hS (lv_sub hl [0, 1, 2, 3, 4] rfl)
      · have hf := mm_ip hf c_5
        refine lv_aload_n hx hb dX5_heightAt_25 rfl (lv_at hl 0 rfl) ?_
        refine mm_get C0 hP iw_X5 0 rfl rfl 8 (by decide) fl_X5_15 rfl dX5_heightAt_26 ?_
        refine lv_iload hx hb dX5_heightAt_29 (lv_at hl 4 rfl) ?_
        obtain ⟨h_6, hf⟩ := mm_cks hf
        refine mm_iald C0 hP 2 rfl h_6 dX5_heightAt_31 ?_
        refine lv_iload_n hx hb dX5_heightAt_32 rfl (lv_at hl 2 rfl) ?_
        refine lv_icmp_ne (tgt := 39) hx hb dX5_heightAt_33 (by decide) (fun c_7 => ?_) (fun c_7 => ?_)
        · have hf := mm_in hf c_7
          exact tX5_heightAt_39 hd C0 hA N ih _ _ _ _ _ _ _ _ H locs ls hf hP hD hS (lv_sub hl [0, 1, 2, 3, 4] rfl)
        · have hf := mm_ip hf c_7
          obtain ⟨y_8, ey_8⟩ : ∃ z : Int32, z = x3 + (1 : Int32) := ⟨_, rfl⟩
          have hf := mm_nms hf ey_8
          refine lv_iinc (v := y_8) (lv' := [(3, .int y_8), (0, .ref (a 0)), (1, .int x1), (2, .int x2), (4, .int x4)]) hx hb dX5_heightAt_36 hl (k := 3) rfl (by rw [ey_8]; rfl) (by decide) rfl (fun ls hl => ?_)
          exact tX5_heightAt_39 hd C0 hA N ih _ _ _ _ _ _ _ _ H locs ls hf hP hD hS (lv_sub hl [1, 2, 3, 0, 4] rfl)

def fX5_heightAt (N : Nat) (x1 : Int32) (x2 : Int32) (v_rows : Int32) (v_cols : Int32) (v_rowOf : List Int32) (v_colOf : List Int32) : Option (Int32) :=
    fX5_heightAt_5 N N x1 x2 (0 : Int32) (0 : Int32) v_rows v_cols v_rowOf v_colOf

set_option maxHeartbeats 4000000 in
set_option maxRecDepth 100000 in
theorem ctX5_heightAt {l : Launch} {D : va_G} {cI cL cS cH : ClassId} {a : Nat → Nat} {x1 : Int32} {x2 : Int32} {v_rows : Int32} {v_cols : Int32} {v_high : Int32} {v_wide : Int32} {v_folds : Int32} {v_wrong : Int32} {v_more : Int32} {v_rowOf : List Int32} {v_colOf : List Int32} {v_below : List Int32} {v_face : List Int32} {v_worn : List Int32} {v_last : List Int32} {v_bend : List Int32} {v_tall : List Int32} {r : Int32} {N d : Nat} (hd : 2 ≤ d) (hf : fX5_heightAt N x1 x2 v_rows v_cols v_rowOf v_colOf = some r) : mm_Ct l yX5_heightAt cX5_heightAt 5 (some .int) d D (mm_T cI cL cS cH) [.ref (a 0), .int x1, .int x2] (wd_X5 cI cL cS cH a v_rows v_cols v_high v_wide v_folds v_wrong v_more v_rowOf v_colOf v_below v_face v_worn v_last v_bend v_tall) (wd_X5 cI cL cS cH a v_rows v_cols v_high v_wide v_folds v_wrong v_more v_rowOf v_colOf v_below v_face v_worn v_last v_bend v_tall) (some (.int r)) := by
  refine mm_of (by decide) (Nat.le_of_ble_eq_true rfl) ?_
  intro p e s m args below meth c A H locs ls C0 hP hD hA hS hl
  have C0 : mm_Cx p s m args meth c RX5 cX5_heightAt 5 (some .int) D (mm_T cI cL cS cH) A := C0
  obtain ⟨hx, hb, hml, hown, hts, hr, hlocks, hK, hSt⟩ := id C0
  have hl : lv_has ls 5 [(0, .ref (a 0)), (1, .int x1), (2, .int x2)] := hl
  unfold fX5_heightAt at hf
  refine lv_iconst (v := 0) hx hb dX5_heightAt_0 (by decide) ?_
  refine lv_istore_n (lv' := [(3, .int (0 : Int32)), (0, .ref (a 0)), (1, .int x1), (2, .int x2)]) hx hb dX5_heightAt_1 rfl hl (by decide) rfl (fun ls hl => ?_)
  refine lv_iconst (v := 0) hx hb dX5_heightAt_2 (by decide) ?_
  refine lv_istore (lv' := [(4, .int (0 : Int32)), (3, .int (0 : Int32)), (0, .ref (a 0)), (1, .int x1), (2, .int x2)]) hx hb dX5_heightAt_3 hl (by decide) rfl (fun ls hl => ?_)
  exact tX5_heightAt_5 hd C0 hA N  N _ _ _ _ _ _ _ _ H locs ls hf hP hD hS (lv_sub hl [2, 3, 4, 1, 0] rfl)

theorem nb_dX5_highestPile_0 : bls_w cX5_highestPile [(0, [3]), (1, [60]), (2, [3]), (3, [61]), (4, [28]), (5, [42]), (6, [182, 0, 84]), (9, [162, 0, 22]), (12, [27]), (13, [42]), (14, [180, 0, 18]), (17, [28])] := bls_of (by decide +kernel)
theorem dX5_highestPile_0 : decode cX5_highestPile 0 = .ok (.iconst 0, 1) := op_3 nb_dX5_highestPile_0.1
theorem dX5_highestPile_1 : decode cX5_highestPile 1 = .ok (.istore_n 1, 1) := op_60 nb_dX5_highestPile_0.2.1
theorem dX5_highestPile_2 : decode cX5_highestPile 2 = .ok (.iconst 0, 1) := op_3 nb_dX5_highestPile_0.2.2.1
theorem dX5_highestPile_3 : decode cX5_highestPile 3 = .ok (.istore_n 2, 1) := op_61 nb_dX5_highestPile_0.2.2.2.1
theorem dX5_highestPile_4 : decode cX5_highestPile 4 = .ok (.iload_n 2, 1) := op_28 nb_dX5_highestPile_0.2.2.2.2.1
theorem dX5_highestPile_5 : decode cX5_highestPile 5 = .ok (.aload_n 0, 1) := op_42 nb_dX5_highestPile_0.2.2.2.2.2.1
set_option maxRecDepth 100000 in
theorem dX5_highestPile_6 : decode cX5_highestPile 6 = .ok (.invokevirtual 84, 3) := (op_182 nb_dX5_highestPile_0.2.2.2.2.2.2.1).trans rfl
set_option maxRecDepth 100000 in
theorem dX5_highestPile_9 : decode cX5_highestPile 9 = .ok (.if_icmp .ge 22, 3) := (op_162 nb_dX5_highestPile_0.2.2.2.2.2.2.2.1).trans rfl
theorem dX5_highestPile_12 : decode cX5_highestPile 12 = .ok (.iload_n 1, 1) := op_27 nb_dX5_highestPile_0.2.2.2.2.2.2.2.2.1
theorem dX5_highestPile_13 : decode cX5_highestPile 13 = .ok (.aload_n 0, 1) := op_42 nb_dX5_highestPile_0.2.2.2.2.2.2.2.2.2.1
set_option maxRecDepth 100000 in
theorem dX5_highestPile_14 : decode cX5_highestPile 14 = .ok (.getfield 18, 3) := (op_180 nb_dX5_highestPile_0.2.2.2.2.2.2.2.2.2.2.1).trans rfl
theorem dX5_highestPile_17 : decode cX5_highestPile 17 = .ok (.iload_n 2, 1) := op_28 nb_dX5_highestPile_0.2.2.2.2.2.2.2.2.2.2.2.1
theorem nb_dX5_highestPile_18 : bls_w cX5_highestPile [(18, [46]), (19, [4]), (20, [96]), (21, [184, 0, 92]), (24, [60]), (25, [132, 2, 1]), (28, [167, 255, 232]), (31, [27]), (32, [172])] := bls_of (by decide +kernel)
theorem dX5_highestPile_18 : decode cX5_highestPile 18 = .ok (.iaload, 1) := op_46 nb_dX5_highestPile_18.1
theorem dX5_highestPile_19 : decode cX5_highestPile 19 = .ok (.iconst 1, 1) := op_4 nb_dX5_highestPile_18.2.1
theorem dX5_highestPile_20 : decode cX5_highestPile 20 = .ok (.iadd, 1) := op_96 nb_dX5_highestPile_18.2.2.1
set_option maxRecDepth 100000 in
theorem dX5_highestPile_21 : decode cX5_highestPile 21 = .ok (.invokestatic 92, 3) := (op_184 nb_dX5_highestPile_18.2.2.2.1).trans rfl
theorem dX5_highestPile_24 : decode cX5_highestPile 24 = .ok (.istore_n 1, 1) := op_60 nb_dX5_highestPile_18.2.2.2.2.1
set_option maxRecDepth 100000 in
theorem dX5_highestPile_25 : decode cX5_highestPile 25 = .ok (.iinc 2 1, 3) := (op_132 nb_dX5_highestPile_18.2.2.2.2.2.1).trans rfl
set_option maxRecDepth 100000 in
theorem dX5_highestPile_28 : decode cX5_highestPile 28 = .ok (.goto (-24), 3) := (op_167 nb_dX5_highestPile_18.2.2.2.2.2.2.1).trans rfl
theorem dX5_highestPile_31 : decode cX5_highestPile 31 = .ok (.iload_n 1, 1) := op_27 nb_dX5_highestPile_18.2.2.2.2.2.2.2.1
theorem dX5_highestPile_32 : decode cX5_highestPile 32 = .ok (.ireturn, 1) := op_172 nb_dX5_highestPile_18.2.2.2.2.2.2.2.2.1
def fX5_highestPile_4 (N : Nat)  : Nat → Int32 → Int32 → Int32 → Int32 → List Int32 → Option (Int32)
  | 0 => fun _ _ _ _ _ => none
  | n + 1 => fun x1 x2 v_rows v_cols v_below =>
    mm_bd1 (fX5_fields N v_rows v_cols) (fun (r_1 : Int32) =>
    if r_1 ≤ x2 then
    (some (x1))
    else (mm_ck (mm_inb x2 v_below.length) (mm_nm ((mm_max x1 ((mm_ig v_below x2) + (1 : Int32)))) (fun (y_5 : Int32) =>
    mm_nm (x2 + (1 : Int32)) (fun (y_6 : Int32) =>
    fX5_highestPile_4 N n y_5 y_6 v_rows v_cols v_below)))))

set_option maxHeartbeats 4000000 in
set_option maxRecDepth 100000 in
theorem tX5_highestPile_4 {p : Program} {l : Launch} {e : Env} {s : State} {m : MethodId} {args : Array Value} {below : List Frame} {meth : Method} {c : Code} {D : va_G} {cI cL cS cH : ClassId} {A : Nat → Prop} {d : Nat} {a : Nat → Nat} (hd : 2 ≤ d) (C0 : mm_Cx p s m args meth c RX5 cX5_highestPile 3 (some .int) D (mm_T cI cL cS cH) A) (hA : ∀ q, s.heap.size ≤ q → A q) {v_high : Int32} {v_wide : Int32} {v_folds : Int32} {v_wrong : Int32} {v_more : Int32} {v_rowOf : List Int32} {v_colOf : List Int32} {v_face : List Int32} {v_worn : List Int32} {v_last : List Int32} {v_bend : List Int32} {v_tall : List Int32} {r : Int32} (N : Nat)  : ∀ (n : Nat), ∀ (x1 : Int32) (x2 : Int32) (v_rows : Int32) (v_cols : Int32) (v_below : List Int32) (H : Heap) (locs : List Loc) (ls : Array Slot), fX5_highestPile_4 N n x1 x2 v_rows v_cols v_below = some r → va_P D mm_cl (wd_X5 cI cL cS cH a v_rows v_cols v_high v_wide v_folds v_wrong v_more v_rowOf v_colOf v_below v_face v_worn v_last v_bend v_tall) H → va_D A (wd_X5 cI cL cS cH a v_rows v_cols v_high v_wide v_folds v_wrong v_more v_rowOf v_colOf v_below v_face v_worn v_last v_bend v_tall) → va_S A s.heap H locs → lv_has ls 3 [(0, .ref (a 0)), (1, .int x1), (2, .int x2)] → W p l e (mm_rr d) s m args below meth c H locs 0 0 (mm_Z below D A (wd_X5 cI cL cS cH a v_rows v_cols v_high v_wide v_folds v_wrong v_more v_rowOf v_colOf v_below v_face v_worn v_last v_bend v_tall) (some (.int r)) args s) (F0 m 4 ls []) := by
  obtain ⟨hx, hb, hml, hown, hts, hr, hlocks, hK, hSt⟩ := id C0
  intro n
  induction n with
  | zero =>
    intro x1 x2 v_rows v_cols v_below H locs ls hf
    cases (show none = some _ from hf)
  | succ n ih =>
    intro x1 x2 v_rows v_cols v_below H locs ls hf hP hD hS hl
    unfold fX5_highestPile_4 at hf
    refine lv_iload_n hx hb dX5_highestPile_4 rfl (lv_at hl 2 rfl) ?_
    refine lv_aload_n hx hb dX5_highestPile_5 rfl (lv_at hl 0 rfl) ?_
    obtain ⟨r_1, hc_2, hf⟩ := mm_bd1s hf
    refine mm_callVF (q0 := 0) (ci := 5) (rest := [.int x2]) C0 lk_X5_84 (ctX5_fields (a := a) (d := d - 1) (by omega) hc_2) (by omega) rfl hl.1 rfl (mm_cat rfl) dX5_highestPile_6 hP hD hA hS rfl rfl (fun H locs hP hD hS => ?_)
    refine W.eq (g2 := F0 m 9 ls [.int r_1, .int x2]) rfl ?_
    refine lv_icmp_ge (tgt := 31) hx hb dX5_highestPile_9 (by decide) (fun c_3 => ?_) (fun c_3 => ?_)
    · have hf := mm_ip hf c_3
      refine lv_iload_n hx hb dX5_highestPile_31 rfl (lv_at hl 1 rfl) ?_
      obtain rfl := mm_inj1 hf
      exact mm_iret C0 hP hD hS dX5_highestPile_32
    · have hf := mm_in hf c_3
      refine lv_iload_n hx hb dX5_highestPile_12 rfl (lv_at hl 1 rfl) ?_
      refine lv_aload_n hx hb dX5_highestPile_13 rfl (lv_at hl 0 rfl) ?_
      refine mm_get C0 hP iw_X5 0 rfl rfl 9 (by decide) fl_X5_18 rfl dX5_highestPile_14 ?_
      refine lv_iload_n hx hb dX5_highestPile_17 rfl (lv_at hl 2 rfl) ?_
      obtain ⟨h_4, hf⟩ := mm_cks hf
      refine mm_iald C0 hP 3 rfl h_4 dX5_highestPile_18 ?_
      refine lv_iconst (v := 1) hx hb dX5_highestPile_19 (by decide) ?_
      refine lv_iadd hx hb dX5_highestPile_20 ?_
      refine mm_mmax C0 lm_X5_92 (by omega) hl.1 (mm_cat rfl) dX5_highestPile_21 ?_
      refine lv_topi (fun y_5 ey_5 => ?_)
      have hf := mm_nms hf ey_5
      refine lv_istore_n (lv' := [(1, .int y_5), (0, .ref (a 0)), (2, .int x2)]) hx hb dX5_highestPile_24 rfl hl (by decide) rfl (fun ls hl => ?_)
      obtain ⟨y_6, ey_6⟩ : ∃ z : Int32, z = x2 + (1 : Int32) := ⟨_, rfl⟩
      have hf := mm_nms hf ey_6
      refine lv_iinc (v := y_6) (lv' := [(2, .int y_6), (1, .int y_5), (0, .ref (a 0))]) hx hb dX5_highestPile_25 hl (k := 2) rfl (by rw [ey_6]; rfl) (by decide) rfl (fun ls hl => ?_)
      refine lv_goto (tgt := 4) hx hb dX5_highestPile_28 (by decide) ?_
      exact ih _ _ _ _ _ H locs ls hf hP hD hS (lv_sub hl [2, 1, 0] rfl)

def fX5_highestPile (N : Nat) (v_rows : Int32) (v_cols : Int32) (v_below : List Int32) : Option (Int32) :=
    fX5_highestPile_4 N N (0 : Int32) (0 : Int32) v_rows v_cols v_below

set_option maxHeartbeats 4000000 in
set_option maxRecDepth 100000 in
theorem ctX5_highestPile {l : Launch} {D : va_G} {cI cL cS cH : ClassId} {a : Nat → Nat}  {v_rows : Int32} {v_cols : Int32} {v_high : Int32} {v_wide : Int32} {v_folds : Int32} {v_wrong : Int32} {v_more : Int32} {v_rowOf : List Int32} {v_colOf : List Int32} {v_below : List Int32} {v_face : List Int32} {v_worn : List Int32} {v_last : List Int32} {v_bend : List Int32} {v_tall : List Int32} {r : Int32} {N d : Nat} (hd : 2 ≤ d) (hf : fX5_highestPile N v_rows v_cols v_below = some r) : mm_Ct l yX5_highestPile cX5_highestPile 3 (some .int) d D (mm_T cI cL cS cH) [.ref (a 0)] (wd_X5 cI cL cS cH a v_rows v_cols v_high v_wide v_folds v_wrong v_more v_rowOf v_colOf v_below v_face v_worn v_last v_bend v_tall) (wd_X5 cI cL cS cH a v_rows v_cols v_high v_wide v_folds v_wrong v_more v_rowOf v_colOf v_below v_face v_worn v_last v_bend v_tall) (some (.int r)) := by
  refine mm_of (by decide) (Nat.le_of_ble_eq_true rfl) ?_
  intro p e s m args below meth c A H locs ls C0 hP hD hA hS hl
  have C0 : mm_Cx p s m args meth c RX5 cX5_highestPile 3 (some .int) D (mm_T cI cL cS cH) A := C0
  obtain ⟨hx, hb, hml, hown, hts, hr, hlocks, hK, hSt⟩ := id C0
  have hl : lv_has ls 3 [(0, .ref (a 0))] := hl
  unfold fX5_highestPile at hf
  refine lv_iconst (v := 0) hx hb dX5_highestPile_0 (by decide) ?_
  refine lv_istore_n (lv' := [(1, .int (0 : Int32)), (0, .ref (a 0))]) hx hb dX5_highestPile_1 rfl hl (by decide) rfl (fun ls hl => ?_)
  refine lv_iconst (v := 0) hx hb dX5_highestPile_2 (by decide) ?_
  refine lv_istore_n (lv' := [(2, .int (0 : Int32)), (1, .int (0 : Int32)), (0, .ref (a 0))]) hx hb dX5_highestPile_3 rfl hl (by decide) rfl (fun ls hl => ?_)
  exact tX5_highestPile_4 hd C0 hA N  N _ _ _ _ _ H locs ls hf hP hD hS (lv_sub hl [2, 1, 0] rfl)

theorem nb_dX5_fieldAt_0 : bls_w cX5_fieldAt [(0, [3]), (1, [54, 4]), (3, [21, 4]), (5, [42]), (6, [182, 0, 84]), (9, [162, 0, 45]), (12, [42]), (13, [180, 0, 9]), (16, [21, 4]), (18, [46]), (19, [27]), (20, [160, 0, 28])] := bls_of (by decide +kernel)
theorem dX5_fieldAt_0 : decode cX5_fieldAt 0 = .ok (.iconst 0, 1) := op_3 nb_dX5_fieldAt_0.1
set_option maxRecDepth 100000 in
theorem dX5_fieldAt_1 : decode cX5_fieldAt 1 = .ok (.istore 4, 2) := (op_54 nb_dX5_fieldAt_0.2.1).trans rfl
set_option maxRecDepth 100000 in
theorem dX5_fieldAt_3 : decode cX5_fieldAt 3 = .ok (.iload 4, 2) := (op_21 nb_dX5_fieldAt_0.2.2.1).trans rfl
theorem dX5_fieldAt_5 : decode cX5_fieldAt 5 = .ok (.aload_n 0, 1) := op_42 nb_dX5_fieldAt_0.2.2.2.1
set_option maxRecDepth 100000 in
theorem dX5_fieldAt_6 : decode cX5_fieldAt 6 = .ok (.invokevirtual 84, 3) := (op_182 nb_dX5_fieldAt_0.2.2.2.2.1).trans rfl
set_option maxRecDepth 100000 in
theorem dX5_fieldAt_9 : decode cX5_fieldAt 9 = .ok (.if_icmp .ge 45, 3) := (op_162 nb_dX5_fieldAt_0.2.2.2.2.2.1).trans rfl
theorem dX5_fieldAt_12 : decode cX5_fieldAt 12 = .ok (.aload_n 0, 1) := op_42 nb_dX5_fieldAt_0.2.2.2.2.2.2.1
set_option maxRecDepth 100000 in
theorem dX5_fieldAt_13 : decode cX5_fieldAt 13 = .ok (.getfield 9, 3) := (op_180 nb_dX5_fieldAt_0.2.2.2.2.2.2.2.1).trans rfl
set_option maxRecDepth 100000 in
theorem dX5_fieldAt_16 : decode cX5_fieldAt 16 = .ok (.iload 4, 2) := (op_21 nb_dX5_fieldAt_0.2.2.2.2.2.2.2.2.1).trans rfl
theorem dX5_fieldAt_18 : decode cX5_fieldAt 18 = .ok (.iaload, 1) := op_46 nb_dX5_fieldAt_0.2.2.2.2.2.2.2.2.2.1
theorem dX5_fieldAt_19 : decode cX5_fieldAt 19 = .ok (.iload_n 1, 1) := op_27 nb_dX5_fieldAt_0.2.2.2.2.2.2.2.2.2.2.1
set_option maxRecDepth 100000 in
theorem dX5_fieldAt_20 : decode cX5_fieldAt 20 = .ok (.if_icmp .ne 28, 3) := (op_160 nb_dX5_fieldAt_0.2.2.2.2.2.2.2.2.2.2.2.1).trans rfl
theorem nb_dX5_fieldAt_23 : bls_w cX5_fieldAt [(23, [42]), (24, [180, 0, 15]), (27, [21, 4]), (29, [46]), (30, [28]), (31, [160, 0, 17]), (34, [42]), (35, [180, 0, 18]), (38, [21, 4]), (40, [46]), (41, [29]), (42, [160, 0, 6])] := bls_of (by decide +kernel)
theorem dX5_fieldAt_23 : decode cX5_fieldAt 23 = .ok (.aload_n 0, 1) := op_42 nb_dX5_fieldAt_23.1
set_option maxRecDepth 100000 in
theorem dX5_fieldAt_24 : decode cX5_fieldAt 24 = .ok (.getfield 15, 3) := (op_180 nb_dX5_fieldAt_23.2.1).trans rfl
set_option maxRecDepth 100000 in
theorem dX5_fieldAt_27 : decode cX5_fieldAt 27 = .ok (.iload 4, 2) := (op_21 nb_dX5_fieldAt_23.2.2.1).trans rfl
theorem dX5_fieldAt_29 : decode cX5_fieldAt 29 = .ok (.iaload, 1) := op_46 nb_dX5_fieldAt_23.2.2.2.1
theorem dX5_fieldAt_30 : decode cX5_fieldAt 30 = .ok (.iload_n 2, 1) := op_28 nb_dX5_fieldAt_23.2.2.2.2.1
set_option maxRecDepth 100000 in
theorem dX5_fieldAt_31 : decode cX5_fieldAt 31 = .ok (.if_icmp .ne 17, 3) := (op_160 nb_dX5_fieldAt_23.2.2.2.2.2.1).trans rfl
theorem dX5_fieldAt_34 : decode cX5_fieldAt 34 = .ok (.aload_n 0, 1) := op_42 nb_dX5_fieldAt_23.2.2.2.2.2.2.1
set_option maxRecDepth 100000 in
theorem dX5_fieldAt_35 : decode cX5_fieldAt 35 = .ok (.getfield 18, 3) := (op_180 nb_dX5_fieldAt_23.2.2.2.2.2.2.2.1).trans rfl
set_option maxRecDepth 100000 in
theorem dX5_fieldAt_38 : decode cX5_fieldAt 38 = .ok (.iload 4, 2) := (op_21 nb_dX5_fieldAt_23.2.2.2.2.2.2.2.2.1).trans rfl
theorem dX5_fieldAt_40 : decode cX5_fieldAt 40 = .ok (.iaload, 1) := op_46 nb_dX5_fieldAt_23.2.2.2.2.2.2.2.2.2.1
theorem dX5_fieldAt_41 : decode cX5_fieldAt 41 = .ok (.iload_n 3, 1) := op_29 nb_dX5_fieldAt_23.2.2.2.2.2.2.2.2.2.2.1
set_option maxRecDepth 100000 in
theorem dX5_fieldAt_42 : decode cX5_fieldAt 42 = .ok (.if_icmp .ne 6, 3) := (op_160 nb_dX5_fieldAt_23.2.2.2.2.2.2.2.2.2.2.2.1).trans rfl
theorem nb_dX5_fieldAt_45 : bls_w cX5_fieldAt [(45, [21, 4]), (47, [172]), (48, [132, 4, 1]), (51, [167, 255, 208]), (54, [2]), (55, [172])] := bls_of (by decide +kernel)
set_option maxRecDepth 100000 in
theorem dX5_fieldAt_45 : decode cX5_fieldAt 45 = .ok (.iload 4, 2) := (op_21 nb_dX5_fieldAt_45.1).trans rfl
theorem dX5_fieldAt_47 : decode cX5_fieldAt 47 = .ok (.ireturn, 1) := op_172 nb_dX5_fieldAt_45.2.1
set_option maxRecDepth 100000 in
theorem dX5_fieldAt_48 : decode cX5_fieldAt 48 = .ok (.iinc 4 1, 3) := (op_132 nb_dX5_fieldAt_45.2.2.1).trans rfl
set_option maxRecDepth 100000 in
theorem dX5_fieldAt_51 : decode cX5_fieldAt 51 = .ok (.goto (-48), 3) := (op_167 nb_dX5_fieldAt_45.2.2.2.1).trans rfl
theorem dX5_fieldAt_54 : decode cX5_fieldAt 54 = .ok (.iconst (-1), 1) := op_2 nb_dX5_fieldAt_45.2.2.2.2.1
theorem dX5_fieldAt_55 : decode cX5_fieldAt 55 = .ok (.ireturn, 1) := op_172 nb_dX5_fieldAt_45.2.2.2.2.2.1
def fX5_fieldAt_48 (N : Nat) (k_3 : Int32 → Int32 → Int32 → Int32 → Int32 → Int32 → List Int32 → List Int32 → List Int32 → Option (Int32)) (x1 : Int32) (x2 : Int32) (x3 : Int32) (x4 : Int32) (v_rows : Int32) (v_cols : Int32) (v_rowOf : List Int32) (v_colOf : List Int32) (v_below : List Int32) : Option (Int32) :=
    mm_nm (x4 + (1 : Int32)) (fun (y_10 : Int32) =>
    k_3 x1 x2 x3 y_10 v_rows v_cols v_rowOf v_colOf v_below)

set_option maxHeartbeats 4000000 in
set_option maxRecDepth 100000 in
theorem tX5_fieldAt_48 {p : Program} {l : Launch} {e : Env} {s : State} {m : MethodId} {args : Array Value} {below : List Frame} {meth : Method} {c : Code} {D : va_G} {cI cL cS cH : ClassId} {A : Nat → Prop} {d : Nat} {a : Nat → Nat} (hd : 2 ≤ d) (C0 : mm_Cx p s m args meth c RX5 cX5_fieldAt 5 (some .int) D (mm_T cI cL cS cH) A) (hA : ∀ q, s.heap.size ≤ q → A q) {v_high : Int32} {v_wide : Int32} {v_folds : Int32} {v_wrong : Int32} {v_more : Int32} {v_face : List Int32} {v_worn : List Int32} {v_last : List Int32} {v_bend : List Int32} {v_tall : List Int32} {r : Int32} (N : Nat) {k_3 : Int32 → Int32 → Int32 → Int32 → Int32 → Int32 → List Int32 → List Int32 → List Int32 → Option (Int32)} (hk_3 : ∀ (x1 : Int32) (x2 : Int32) (x3 : Int32) (x4 : Int32) (v_rows : Int32) (v_cols : Int32) (v_rowOf : List Int32) (v_colOf : List Int32) (v_below : List Int32) (H : Heap) (locs : List Loc) (ls : Array Slot), k_3 x1 x2 x3 x4 v_rows v_cols v_rowOf v_colOf v_below = some r → va_P D mm_cl (wd_X5 cI cL cS cH a v_rows v_cols v_high v_wide v_folds v_wrong v_more v_rowOf v_colOf v_below v_face v_worn v_last v_bend v_tall) H → va_D A (wd_X5 cI cL cS cH a v_rows v_cols v_high v_wide v_folds v_wrong v_more v_rowOf v_colOf v_below v_face v_worn v_last v_bend v_tall) → va_S A s.heap H locs → lv_has ls 5 [(0, .ref (a 0)), (1, .int x1), (2, .int x2), (3, .int x3), (4, .int x4)] → W p l e (mm_rr d) s m args below meth c H locs 0 0 (mm_Z below D A (wd_X5 cI cL cS cH a v_rows v_cols v_high v_wide v_folds v_wrong v_more v_rowOf v_colOf v_below v_face v_worn v_last v_bend v_tall) (some (.int r)) args s) (F0 m 3 ls [])) : ∀ (x1 : Int32) (x2 : Int32) (x3 : Int32) (x4 : Int32) (v_rows : Int32) (v_cols : Int32) (v_rowOf : List Int32) (v_colOf : List Int32) (v_below : List Int32) (H : Heap) (locs : List Loc) (ls : Array Slot), fX5_fieldAt_48 N k_3 x1 x2 x3 x4 v_rows v_cols v_rowOf v_colOf v_below = some r → va_P D mm_cl (wd_X5 cI cL cS cH a v_rows v_cols v_high v_wide v_folds v_wrong v_more v_rowOf v_colOf v_below v_face v_worn v_last v_bend v_tall) H → va_D A (wd_X5 cI cL cS cH a v_rows v_cols v_high v_wide v_folds v_wrong v_more v_rowOf v_colOf v_below v_face v_worn v_last v_bend v_tall) → va_S A s.heap H locs → lv_has ls 5 [(0, .ref (a 0)), (1, .int x1), (2, .int x2), (3, .int x3), (4, .int x4)] → W p l e (mm_rr d) s m args below meth c H locs 0 0 (mm_Z below D A (wd_X5 cI cL cS cH a v_rows v_cols v_high v_wide v_folds v_wrong v_more v_rowOf v_colOf v_below v_face v_worn v_last v_bend v_tall) (some (.int r)) args s) (F0 m 48 ls []) := by
  obtain ⟨hx, hb, hml, hown, hts, hr, hlocks, hK, hSt⟩ := id C0
  intro x1 x2 x3 x4 v_rows v_cols v_rowOf v_colOf v_below H locs ls hf hP hD hS hl
  unfold fX5_fieldAt_48 at hf
  obtain ⟨y_10, ey_10⟩ : ∃ z : Int32, z = x4 + (1 : Int32) := ⟨_, rfl⟩
  have hf := mm_nms hf ey_10
  refine lv_iinc (v := y_10) (lv' := [(4, .int y_10), (0, .ref (a 0)), (1, .int x1), (2, .int x2), (3, .int x3)]) hx hb dX5_fieldAt_48 hl (k := 4) rfl (by rw [ey_10]; rfl) (by decide) rfl (fun ls hl => ?_)
  refine lv_goto (tgt := 3) hx hb dX5_fieldAt_51 (by decide) ?_
  exact hk_3 _ _ _ _ _ _ _ _ _ H locs ls hf hP hD hS (lv_sub hl [1, 2, 3, 4, 0] rfl)

def fX5_fieldAt_3 (N : Nat)  : Nat → Int32 → Int32 → Int32 → Int32 → Int32 → Int32 → List Int32 → List Int32 → List Int32 → Option (Int32)
  | 0 => fun _ _ _ _ _ _ _ _ _ => none
  | n + 1 => fun x1 x2 x3 x4 v_rows v_cols v_rowOf v_colOf v_below =>
    mm_bd1 (fX5_fields N v_rows v_cols) (fun (r_1 : Int32) =>
    if r_1 ≤ x4 then
    (some ((-1 : Int32)))
    else (mm_ck (mm_inb x4 v_rowOf.length) (if (mm_ig v_rowOf x4) = x1 then
    (mm_ck (mm_inb x4 v_colOf.length) (if (mm_ig v_colOf x4) = x2 then
    (mm_ck (mm_inb x4 v_below.length) (if (mm_ig v_below x4) = x3 then
    (some (x4))
    else (fX5_fieldAt_48 N (fX5_fieldAt_3 N n) x1 x2 x3 x4 v_rows v_cols v_rowOf v_colOf v_below)))
    else (fX5_fieldAt_48 N (fX5_fieldAt_3 N n) x1 x2 x3 x4 v_rows v_cols v_rowOf v_colOf v_below)))
    else (fX5_fieldAt_48 N (fX5_fieldAt_3 N n) x1 x2 x3 x4 v_rows v_cols v_rowOf v_colOf v_below))))

set_option maxHeartbeats 4000000 in
set_option maxRecDepth 100000 in
theorem tX5_fieldAt_3 {p : Program} {l : Launch} {e : Env} {s : State} {m : MethodId} {args : Array Value} {below : List Frame} {meth : Method} {c : Code} {D : va_G} {cI cL cS cH : ClassId} {A : Nat → Prop} {d : Nat} {a : Nat → Nat} (hd : 2 ≤ d) (C0 : mm_Cx p s m args meth c RX5 cX5_fieldAt 5 (some .int) D (mm_T cI cL cS cH) A) (hA : ∀ q, s.heap.size ≤ q → A q) {v_high : Int32} {v_wide : Int32} {v_folds : Int32} {v_wrong : Int32} {v_more : Int32} {v_face : List Int32} {v_worn : List Int32} {v_last : List Int32} {v_bend : List Int32} {v_tall : List Int32} {r : Int32} (N : Nat)  : ∀ (n : Nat), ∀ (x1 : Int32) (x2 : Int32) (x3 : Int32) (x4 : Int32) (v_rows : Int32) (v_cols : Int32) (v_rowOf : List Int32) (v_colOf : List Int32) (v_below : List Int32) (H : Heap) (locs : List Loc) (ls : Array Slot), fX5_fieldAt_3 N n x1 x2 x3 x4 v_rows v_cols v_rowOf v_colOf v_below = some r → va_P D mm_cl (wd_X5 cI cL cS cH a v_rows v_cols v_high v_wide v_folds v_wrong v_more v_rowOf v_colOf v_below v_face v_worn v_last v_bend v_tall) H → va_D A (wd_X5 cI cL cS cH a v_rows v_cols v_high v_wide v_folds v_wrong v_more v_rowOf v_colOf v_below v_face v_worn v_last v_bend v_tall) → va_S A s.heap H locs → lv_has ls 5 [(0, .ref (a 0)), (1, .int x1), (2, .int x2), (3, .int x3), (4, .int x4)] → W p l e (mm_rr d) s m args below meth c H locs 0 0 (mm_Z below D A (wd_X5 cI cL cS cH a v_rows v_cols v_high v_wide v_folds v_wrong v_more v_rowOf v_colOf v_below v_face v_worn v_last v_bend v_tall) (some (.int r)) args s) (F0 m 3 ls []) := by
  obtain ⟨hx, hb, hml, hown, hts, hr, hlocks, hK, hSt⟩ := id C0
  intro n
  induction n with
  | zero =>
    intro x1 x2 x3 x4 v_rows v_cols v_rowOf v_colOf v_below H locs ls hf
    cases (show none = some _ from hf)
  | succ n ih =>
    intro x1 x2 x3 x4 v_rows v_cols v_rowOf v_colOf v_below H locs ls hf hP hD hS hl
    unfold fX5_fieldAt_3 at hf
    refine lv_iload hx hb dX5_fieldAt_3 (lv_at hl 4 rfl) ?_
    refine lv_aload_n hx hb dX5_fieldAt_5 rfl (lv_at hl 0 rfl) ?_
    obtain ⟨r_1, hc_2, hf⟩ := mm_bd1s hf
    refine mm_callVF (q0 := 0) (ci := 5) (rest := [.int x4]) C0 lk_X5_84 (ctX5_fields (a := a) (d := d - 1) (by omega) hc_2) (by omega) rfl hl.1 rfl (mm_cat rfl) dX5_fieldAt_6 hP hD hA hS rfl rfl (fun H locs hP hD hS => ?_)
    refine W.eq (g2 := F0 m 9 ls [.int r_1, .int x4]) rfl ?_
    refine lv_icmp_ge (tgt := 54) hx hb dX5_fieldAt_9 (by decide) (fun c_3 => ?_) (fun c_3 => ?_)
    · have hf := mm_ip hf c_3
      refine lv_iconst (v := -1) hx hb dX5_fieldAt_54 (by decide) ?_
      obtain rfl := mm_inj1 hf
      exact mm_iret C0 hP hD hS dX5_fieldAt_55
    · have hf := mm_in hf c_3
      refine lv_aload_n hx hb dX5_fieldAt_12 rfl (lv_at hl 0 rfl) ?_
      refine mm_get C0 hP iw_X5 0 rfl rfl 7 (by decide) fl_X5_9 rfl dX5_fieldAt_13 ?_
      refine lv_iload hx hb dX5_fieldAt_16 (lv_at hl 4 rfl) ?_
      obtain ⟨h_4, hf⟩ := mm_cks hf
      refine mm_iald C0 hP 1 rfl h_4 dX5_fieldAt_18 ?_
      refine lv_iload_n hx hb dX5_fieldAt_19 rfl (lv_at hl 1 rfl) ?_
      refine lv_icmp_ne (tgt := 48) hx hb dX5_fieldAt_20 (by decide) (fun c_5 => ?_) (fun c_5 => ?_)
      · have hf := mm_in hf c_5
        exact tX5_fieldAt_48 hd C0 hA N ih _ _ _ _ _ _ _ _ _ H locs ls hf hP hD hS (lv_sub hl [0, 1, 2, 3, 4] rfl)
      · have hf := mm_ip hf c_5
        refine lv_aload_n hx hb dX5_fieldAt_23 rfl (lv_at hl 0 rfl) ?_
        refine mm_get C0 hP iw_X5 0 rfl rfl 8 (by decide) fl_X5_15 rfl dX5_fieldAt_24 ?_
        refine lv_iload hx hb dX5_fieldAt_27 (lv_at hl 4 rfl) ?_
        obtain ⟨h_6, hf⟩ := mm_cks hf
        refine mm_iald C0 hP 2 rfl h_6 dX5_fieldAt_29 ?_
        refine lv_iload_n hx hb dX5_fieldAt_30 rfl (lv_at hl 2 rfl) ?_
        refine lv_icmp_ne (tgt := 48) hx hb dX5_fieldAt_31 (by decide) (fun c_7 => ?_) (fun c_7 => ?_)
        · have hf := mm_in hf c_7
          exact tX5_fieldAt_48 hd C0 hA N ih _ _ _ _ _ _ _ _ _ H locs ls hf hP hD hS (lv_sub hl [0, 1, 2, 3, 4] rfl)
        · have hf := mm_ip hf c_7
          refine lv_aload_n hx hb dX5_fieldAt_34 rfl (lv_at hl 0 rfl) ?_
          refine mm_get C0 hP iw_X5 0 rfl rfl 9 (by decide) fl_X5_18 rfl dX5_fieldAt_35 ?_
          refine lv_iload hx hb dX5_fieldAt_38 (lv_at hl 4 rfl) ?_
          obtain ⟨h_8, hf⟩ := mm_cks hf
          refine mm_iald C0 hP 3 rfl h_8 dX5_fieldAt_40 ?_
          refine lv_iload_n hx hb dX5_fieldAt_41 rfl (lv_at hl 3 rfl) ?_
          refine lv_icmp_ne (tgt := 48) hx hb dX5_fieldAt_42 (by decide) (fun c_9 => ?_) (fun c_9 => ?_)
          · have hf := mm_in hf c_9
            exact tX5_fieldAt_48 hd C0 hA N ih _ _ _ _ _ _ _ _ _ H locs ls hf hP hD hS (lv_sub hl [0, 1, 2, 3, 4] rfl)
          · have hf := mm_ip hf c_9
            refine lv_iload hx hb dX5_fieldAt_45 (lv_at hl 4 rfl) ?_
            obtain rfl := mm_inj1 hf
            exact mm_iret C0 hP hD hS dX5_fieldAt_47

def fX5_fieldAt (N : Nat) (x1 : Int32) (x2 : Int32) (x3 : Int32) (v_rows : Int32) (v_cols : Int32) (v_rowOf : List Int32) (v_colOf : List Int32) (v_below : List Int32) : Option (Int32) :=
    fX5_fieldAt_3 N N x1 x2 x3 (0 : Int32) v_rows v_cols v_rowOf v_colOf v_below

set_option maxHeartbeats 4000000 in
set_option maxRecDepth 100000 in
theorem ctX5_fieldAt {l : Launch} {D : va_G} {cI cL cS cH : ClassId} {a : Nat → Nat} {x1 : Int32} {x2 : Int32} {x3 : Int32} {v_rows : Int32} {v_cols : Int32} {v_high : Int32} {v_wide : Int32} {v_folds : Int32} {v_wrong : Int32} {v_more : Int32} {v_rowOf : List Int32} {v_colOf : List Int32} {v_below : List Int32} {v_face : List Int32} {v_worn : List Int32} {v_last : List Int32} {v_bend : List Int32} {v_tall : List Int32} {r : Int32} {N d : Nat} (hd : 2 ≤ d) (hf : fX5_fieldAt N x1 x2 x3 v_rows v_cols v_rowOf v_colOf v_below = some r) : mm_Ct l yX5_fieldAt cX5_fieldAt 5 (some .int) d D (mm_T cI cL cS cH) [.ref (a 0), .int x1, .int x2, .int x3] (wd_X5 cI cL cS cH a v_rows v_cols v_high v_wide v_folds v_wrong v_more v_rowOf v_colOf v_below v_face v_worn v_last v_bend v_tall) (wd_X5 cI cL cS cH a v_rows v_cols v_high v_wide v_folds v_wrong v_more v_rowOf v_colOf v_below v_face v_worn v_last v_bend v_tall) (some (.int r)) := by
  refine mm_of (by decide) (Nat.le_of_ble_eq_true rfl) ?_
  intro p e s m args below meth c A H locs ls C0 hP hD hA hS hl
  have C0 : mm_Cx p s m args meth c RX5 cX5_fieldAt 5 (some .int) D (mm_T cI cL cS cH) A := C0
  obtain ⟨hx, hb, hml, hown, hts, hr, hlocks, hK, hSt⟩ := id C0
  have hl : lv_has ls 5 [(0, .ref (a 0)), (1, .int x1), (2, .int x2), (3, .int x3)] := hl
  unfold fX5_fieldAt at hf
  refine lv_iconst (v := 0) hx hb dX5_fieldAt_0 (by decide) ?_
  refine lv_istore (lv' := [(4, .int (0 : Int32)), (0, .ref (a 0)), (1, .int x1), (2, .int x2), (3, .int x3)]) hx hb dX5_fieldAt_1 hl (by decide) rfl (fun ls hl => ?_)
  exact tX5_fieldAt_3 hd C0 hA N  N _ _ _ _ _ _ _ _ _ H locs ls hf hP hD hS (lv_sub hl [1, 2, 3, 4, 0] rfl)

theorem nb_dX5_topAt_0 : bls_w cX5_topAt [(0, [42]), (1, [27]), (2, [28]), (3, [42]), (4, [27]), (5, [28]), (6, [182, 0, 102]), (9, [4]), (10, [100]), (11, [182, 0, 105]), (14, [172])] := bls_of (by decide +kernel)
theorem dX5_topAt_0 : decode cX5_topAt 0 = .ok (.aload_n 0, 1) := op_42 nb_dX5_topAt_0.1
theorem dX5_topAt_1 : decode cX5_topAt 1 = .ok (.iload_n 1, 1) := op_27 nb_dX5_topAt_0.2.1
theorem dX5_topAt_2 : decode cX5_topAt 2 = .ok (.iload_n 2, 1) := op_28 nb_dX5_topAt_0.2.2.1
theorem dX5_topAt_3 : decode cX5_topAt 3 = .ok (.aload_n 0, 1) := op_42 nb_dX5_topAt_0.2.2.2.1
theorem dX5_topAt_4 : decode cX5_topAt 4 = .ok (.iload_n 1, 1) := op_27 nb_dX5_topAt_0.2.2.2.2.1
theorem dX5_topAt_5 : decode cX5_topAt 5 = .ok (.iload_n 2, 1) := op_28 nb_dX5_topAt_0.2.2.2.2.2.1
set_option maxRecDepth 100000 in
theorem dX5_topAt_6 : decode cX5_topAt 6 = .ok (.invokevirtual 102, 3) := (op_182 nb_dX5_topAt_0.2.2.2.2.2.2.1).trans rfl
theorem dX5_topAt_9 : decode cX5_topAt 9 = .ok (.iconst 1, 1) := op_4 nb_dX5_topAt_0.2.2.2.2.2.2.2.1
theorem dX5_topAt_10 : decode cX5_topAt 10 = .ok (.isub, 1) := op_100 nb_dX5_topAt_0.2.2.2.2.2.2.2.2.1
set_option maxRecDepth 100000 in
theorem dX5_topAt_11 : decode cX5_topAt 11 = .ok (.invokevirtual 105, 3) := (op_182 nb_dX5_topAt_0.2.2.2.2.2.2.2.2.2.1).trans rfl
theorem dX5_topAt_14 : decode cX5_topAt 14 = .ok (.ireturn, 1) := op_172 nb_dX5_topAt_0.2.2.2.2.2.2.2.2.2.2.1
def fX5_topAt (N : Nat) (x1 : Int32) (x2 : Int32) (v_rows : Int32) (v_cols : Int32) (v_rowOf : List Int32) (v_colOf : List Int32) (v_below : List Int32) : Option (Int32) :=
    mm_bd1 (fX5_heightAt N x1 x2 v_rows v_cols v_rowOf v_colOf) (fun (r_1 : Int32) =>
    mm_bd1 (fX5_fieldAt N x1 x2 (r_1 - (1 : Int32)) v_rows v_cols v_rowOf v_colOf v_below) (fun (r_3 : Int32) =>
    some (r_3)))

set_option maxHeartbeats 4000000 in
set_option maxRecDepth 100000 in
theorem ctX5_topAt {l : Launch} {D : va_G} {cI cL cS cH : ClassId} {a : Nat → Nat} {x1 : Int32} {x2 : Int32} {v_rows : Int32} {v_cols : Int32} {v_high : Int32} {v_wide : Int32} {v_folds : Int32} {v_wrong : Int32} {v_more : Int32} {v_rowOf : List Int32} {v_colOf : List Int32} {v_below : List Int32} {v_face : List Int32} {v_worn : List Int32} {v_last : List Int32} {v_bend : List Int32} {v_tall : List Int32} {r : Int32} {N d : Nat} (hd : 3 ≤ d) (hf : fX5_topAt N x1 x2 v_rows v_cols v_rowOf v_colOf v_below = some r) : mm_Ct l yX5_topAt cX5_topAt 3 (some .int) d D (mm_T cI cL cS cH) [.ref (a 0), .int x1, .int x2] (wd_X5 cI cL cS cH a v_rows v_cols v_high v_wide v_folds v_wrong v_more v_rowOf v_colOf v_below v_face v_worn v_last v_bend v_tall) (wd_X5 cI cL cS cH a v_rows v_cols v_high v_wide v_folds v_wrong v_more v_rowOf v_colOf v_below v_face v_worn v_last v_bend v_tall) (some (.int r)) := by
  refine mm_of (by decide) (Nat.le_of_ble_eq_true rfl) ?_
  intro p e s m args below meth c A H locs ls C0 hP hD hA hS hl
  have C0 : mm_Cx p s m args meth c RX5 cX5_topAt 3 (some .int) D (mm_T cI cL cS cH) A := C0
  obtain ⟨hx, hb, hml, hown, hts, hr, hlocks, hK, hSt⟩ := id C0
  have hl : lv_has ls 3 [(0, .ref (a 0)), (1, .int x1), (2, .int x2)] := hl
  unfold fX5_topAt at hf
  refine lv_aload_n hx hb dX5_topAt_0 rfl (lv_at hl 0 rfl) ?_
  refine lv_iload_n hx hb dX5_topAt_1 rfl (lv_at hl 1 rfl) ?_
  refine lv_iload_n hx hb dX5_topAt_2 rfl (lv_at hl 2 rfl) ?_
  refine lv_aload_n hx hb dX5_topAt_3 rfl (lv_at hl 0 rfl) ?_
  refine lv_iload_n hx hb dX5_topAt_4 rfl (lv_at hl 1 rfl) ?_
  refine lv_iload_n hx hb dX5_topAt_5 rfl (lv_at hl 2 rfl) ?_
  obtain ⟨r_1, hc_2, hf⟩ := mm_bd1s hf
  refine mm_callVF (q0 := 0) (ci := 5) (rest := [.int x2, .int x1, .ref (a 0)]) C0 lk_X5_102 (ctX5_heightAt (a := a) (d := d - 1) (by omega) hc_2) (by omega) rfl hl.1 rfl (mm_cat rfl) dX5_topAt_6 hP hD hA hS rfl rfl (fun H locs hP hD hS => ?_)
  refine W.eq (g2 := F0 m 9 ls [.int r_1, .int x2, .int x1, .ref (a 0)]) rfl ?_
  refine lv_iconst (v := 1) hx hb dX5_topAt_9 (by decide) ?_
  refine lv_isub hx hb dX5_topAt_10 ?_
  obtain ⟨r_3, hc_4, hf⟩ := mm_bd1s hf
  refine mm_callVF (q0 := 0) (ci := 5) (rest := []) C0 lk_X5_105 (ctX5_fieldAt (a := a) (d := d - 1) (by omega) hc_4) (by omega) rfl hl.1 rfl (mm_cat rfl) dX5_topAt_11 hP hD hA hS rfl rfl (fun H locs hP hD hS => ?_)
  refine W.eq (g2 := F0 m 14 ls [.int r_3]) rfl ?_
  obtain rfl := mm_inj1 hf
  exact mm_iret C0 hP hD hS dX5_topAt_14

theorem nb_dX5_isTop_0 : bls_w cX5_isTop [(0, [42]), (1, [42]), (2, [180, 0, 9]), (5, [27]), (6, [46]), (7, [42]), (8, [180, 0, 15]), (11, [27]), (12, [46]), (13, [182, 0, 109]), (16, [27]), (17, [160, 0, 7])] := bls_of (by decide +kernel)
theorem dX5_isTop_0 : decode cX5_isTop 0 = .ok (.aload_n 0, 1) := op_42 nb_dX5_isTop_0.1
theorem dX5_isTop_1 : decode cX5_isTop 1 = .ok (.aload_n 0, 1) := op_42 nb_dX5_isTop_0.2.1
set_option maxRecDepth 100000 in
theorem dX5_isTop_2 : decode cX5_isTop 2 = .ok (.getfield 9, 3) := (op_180 nb_dX5_isTop_0.2.2.1).trans rfl
theorem dX5_isTop_5 : decode cX5_isTop 5 = .ok (.iload_n 1, 1) := op_27 nb_dX5_isTop_0.2.2.2.1
theorem dX5_isTop_6 : decode cX5_isTop 6 = .ok (.iaload, 1) := op_46 nb_dX5_isTop_0.2.2.2.2.1
theorem dX5_isTop_7 : decode cX5_isTop 7 = .ok (.aload_n 0, 1) := op_42 nb_dX5_isTop_0.2.2.2.2.2.1
set_option maxRecDepth 100000 in
theorem dX5_isTop_8 : decode cX5_isTop 8 = .ok (.getfield 15, 3) := (op_180 nb_dX5_isTop_0.2.2.2.2.2.2.1).trans rfl
theorem dX5_isTop_11 : decode cX5_isTop 11 = .ok (.iload_n 1, 1) := op_27 nb_dX5_isTop_0.2.2.2.2.2.2.2.1
theorem dX5_isTop_12 : decode cX5_isTop 12 = .ok (.iaload, 1) := op_46 nb_dX5_isTop_0.2.2.2.2.2.2.2.2.1
set_option maxRecDepth 100000 in
theorem dX5_isTop_13 : decode cX5_isTop 13 = .ok (.invokevirtual 109, 3) := (op_182 nb_dX5_isTop_0.2.2.2.2.2.2.2.2.2.1).trans rfl
theorem dX5_isTop_16 : decode cX5_isTop 16 = .ok (.iload_n 1, 1) := op_27 nb_dX5_isTop_0.2.2.2.2.2.2.2.2.2.2.1
set_option maxRecDepth 100000 in
theorem dX5_isTop_17 : decode cX5_isTop 17 = .ok (.if_icmp .ne 7, 3) := (op_160 nb_dX5_isTop_0.2.2.2.2.2.2.2.2.2.2.2.1).trans rfl
theorem nb_dX5_isTop_20 : bls_w cX5_isTop [(20, [4]), (21, [167, 0, 4]), (24, [3]), (25, [172])] := bls_of (by decide +kernel)
theorem dX5_isTop_20 : decode cX5_isTop 20 = .ok (.iconst 1, 1) := op_4 nb_dX5_isTop_20.1
set_option maxRecDepth 100000 in
theorem dX5_isTop_21 : decode cX5_isTop 21 = .ok (.goto 4, 3) := (op_167 nb_dX5_isTop_20.2.1).trans rfl
theorem dX5_isTop_24 : decode cX5_isTop 24 = .ok (.iconst 0, 1) := op_3 nb_dX5_isTop_20.2.2.1
theorem dX5_isTop_25 : decode cX5_isTop 25 = .ok (.ireturn, 1) := op_172 nb_dX5_isTop_20.2.2.2.1
def fX5_isTop (N : Nat) (x1 : Int32) (v_rows : Int32) (v_cols : Int32) (v_rowOf : List Int32) (v_colOf : List Int32) (v_below : List Int32) : Option (Bool) :=
    mm_ck (mm_inb x1 v_rowOf.length) (mm_ck (mm_inb x1 v_colOf.length) (mm_bd1 (fX5_topAt N (mm_ig v_rowOf x1) (mm_ig v_colOf x1) v_rows v_cols v_rowOf v_colOf v_below) (fun (r_3 : Int32) =>
    if r_3 = x1 then
    (some (true))
    else (some (false)))))

set_option maxHeartbeats 4000000 in
set_option maxRecDepth 100000 in
theorem ctX5_isTop {l : Launch} {D : va_G} {cI cL cS cH : ClassId} {a : Nat → Nat} {x1 : Int32} {v_rows : Int32} {v_cols : Int32} {v_high : Int32} {v_wide : Int32} {v_folds : Int32} {v_wrong : Int32} {v_more : Int32} {v_rowOf : List Int32} {v_colOf : List Int32} {v_below : List Int32} {v_face : List Int32} {v_worn : List Int32} {v_last : List Int32} {v_bend : List Int32} {v_tall : List Int32} {r : Bool} {N d : Nat} (hd : 4 ≤ d) (hf : fX5_isTop N x1 v_rows v_cols v_rowOf v_colOf v_below = some r) : mm_Ct l yX5_isTop cX5_isTop 2 (some .boolean) d D (mm_T cI cL cS cH) [.ref (a 0), .int x1] (wd_X5 cI cL cS cH a v_rows v_cols v_high v_wide v_folds v_wrong v_more v_rowOf v_colOf v_below v_face v_worn v_last v_bend v_tall) (wd_X5 cI cL cS cH a v_rows v_cols v_high v_wide v_folds v_wrong v_more v_rowOf v_colOf v_below v_face v_worn v_last v_bend v_tall) (some (.int (mm_b r))) := by
  refine mm_of (by decide) (Nat.le_of_ble_eq_true rfl) ?_
  intro p e s m args below meth c A H locs ls C0 hP hD hA hS hl
  have C0 : mm_Cx p s m args meth c RX5 cX5_isTop 2 (some .boolean) D (mm_T cI cL cS cH) A := C0
  obtain ⟨hx, hb, hml, hown, hts, hr, hlocks, hK, hSt⟩ := id C0
  have hl : lv_has ls 2 [(0, .ref (a 0)), (1, .int x1)] := hl
  unfold fX5_isTop at hf
  refine lv_aload_n hx hb dX5_isTop_0 rfl (lv_at hl 0 rfl) ?_
  refine lv_aload_n hx hb dX5_isTop_1 rfl (lv_at hl 0 rfl) ?_
  refine mm_get C0 hP iw_X5 0 rfl rfl 7 (by decide) fl_X5_9 rfl dX5_isTop_2 ?_
  refine lv_iload_n hx hb dX5_isTop_5 rfl (lv_at hl 1 rfl) ?_
  obtain ⟨h_1, hf⟩ := mm_cks hf
  refine mm_iald C0 hP 1 rfl h_1 dX5_isTop_6 ?_
  refine lv_aload_n hx hb dX5_isTop_7 rfl (lv_at hl 0 rfl) ?_
  refine mm_get C0 hP iw_X5 0 rfl rfl 8 (by decide) fl_X5_15 rfl dX5_isTop_8 ?_
  refine lv_iload_n hx hb dX5_isTop_11 rfl (lv_at hl 1 rfl) ?_
  obtain ⟨h_2, hf⟩ := mm_cks hf
  refine mm_iald C0 hP 2 rfl h_2 dX5_isTop_12 ?_
  obtain ⟨r_3, hc_4, hf⟩ := mm_bd1s hf
  refine mm_callVF (q0 := 0) (ci := 5) (rest := []) C0 lk_X5_109 (ctX5_topAt (a := a) (d := d - 1) (by omega) hc_4) (by omega) rfl hl.1 rfl (mm_cat rfl) dX5_isTop_13 hP hD hA hS rfl rfl (fun H locs hP hD hS => ?_)
  refine W.eq (g2 := F0 m 16 ls [.int r_3]) rfl ?_
  refine lv_iload_n hx hb dX5_isTop_16 rfl (lv_at hl 1 rfl) ?_
  refine lv_icmp_ne (tgt := 24) hx hb dX5_isTop_17 (by decide) (fun c_5 => ?_) (fun c_5 => ?_)
  · have hf := mm_in hf c_5
    refine lv_iconst (v := 0) hx hb dX5_isTop_24 (by decide) ?_
    obtain rfl := mm_inj1 hf
    exact mm_zret (v := false) C0 hP hD hS dX5_isTop_25 (by decide)
  · have hf := mm_ip hf c_5
    refine lv_iconst (v := 1) hx hb dX5_isTop_20 (by decide) ?_
    refine lv_goto (tgt := 25) hx hb dX5_isTop_21 (by decide) ?_
    obtain rfl := mm_inj1 hf
    exact mm_zret (v := true) C0 hP hD hS dX5_isTop_25 (by decide)

theorem nb_dX5_topsTouch_0 : bls_w cX5_topsTouch [(0, [42]), (1, [180, 0, 9]), (4, [27]), (5, [46]), (6, [42]), (7, [180, 0, 9]), (10, [28]), (11, [46]), (12, [100]), (13, [184, 0, 112]), (16, [42]), (17, [180, 0, 15])] := bls_of (by decide +kernel)
theorem dX5_topsTouch_0 : decode cX5_topsTouch 0 = .ok (.aload_n 0, 1) := op_42 nb_dX5_topsTouch_0.1
set_option maxRecDepth 100000 in
theorem dX5_topsTouch_1 : decode cX5_topsTouch 1 = .ok (.getfield 9, 3) := (op_180 nb_dX5_topsTouch_0.2.1).trans rfl
theorem dX5_topsTouch_4 : decode cX5_topsTouch 4 = .ok (.iload_n 1, 1) := op_27 nb_dX5_topsTouch_0.2.2.1
theorem dX5_topsTouch_5 : decode cX5_topsTouch 5 = .ok (.iaload, 1) := op_46 nb_dX5_topsTouch_0.2.2.2.1
theorem dX5_topsTouch_6 : decode cX5_topsTouch 6 = .ok (.aload_n 0, 1) := op_42 nb_dX5_topsTouch_0.2.2.2.2.1
set_option maxRecDepth 100000 in
theorem dX5_topsTouch_7 : decode cX5_topsTouch 7 = .ok (.getfield 9, 3) := (op_180 nb_dX5_topsTouch_0.2.2.2.2.2.1).trans rfl
theorem dX5_topsTouch_10 : decode cX5_topsTouch 10 = .ok (.iload_n 2, 1) := op_28 nb_dX5_topsTouch_0.2.2.2.2.2.2.1
theorem dX5_topsTouch_11 : decode cX5_topsTouch 11 = .ok (.iaload, 1) := op_46 nb_dX5_topsTouch_0.2.2.2.2.2.2.2.1
theorem dX5_topsTouch_12 : decode cX5_topsTouch 12 = .ok (.isub, 1) := op_100 nb_dX5_topsTouch_0.2.2.2.2.2.2.2.2.1
set_option maxRecDepth 100000 in
theorem dX5_topsTouch_13 : decode cX5_topsTouch 13 = .ok (.invokestatic 112, 3) := (op_184 nb_dX5_topsTouch_0.2.2.2.2.2.2.2.2.2.1).trans rfl
theorem dX5_topsTouch_16 : decode cX5_topsTouch 16 = .ok (.aload_n 0, 1) := op_42 nb_dX5_topsTouch_0.2.2.2.2.2.2.2.2.2.2.1
set_option maxRecDepth 100000 in
theorem dX5_topsTouch_17 : decode cX5_topsTouch 17 = .ok (.getfield 15, 3) := (op_180 nb_dX5_topsTouch_0.2.2.2.2.2.2.2.2.2.2.2.1).trans rfl
theorem nb_dX5_topsTouch_20 : bls_w cX5_topsTouch [(20, [27]), (21, [46]), (22, [42]), (23, [180, 0, 15]), (26, [28]), (27, [46]), (28, [100]), (29, [184, 0, 112]), (32, [96]), (33, [62]), (34, [29]), (35, [4])] := bls_of (by decide +kernel)
theorem dX5_topsTouch_20 : decode cX5_topsTouch 20 = .ok (.iload_n 1, 1) := op_27 nb_dX5_topsTouch_20.1
theorem dX5_topsTouch_21 : decode cX5_topsTouch 21 = .ok (.iaload, 1) := op_46 nb_dX5_topsTouch_20.2.1
theorem dX5_topsTouch_22 : decode cX5_topsTouch 22 = .ok (.aload_n 0, 1) := op_42 nb_dX5_topsTouch_20.2.2.1
set_option maxRecDepth 100000 in
theorem dX5_topsTouch_23 : decode cX5_topsTouch 23 = .ok (.getfield 15, 3) := (op_180 nb_dX5_topsTouch_20.2.2.2.1).trans rfl
theorem dX5_topsTouch_26 : decode cX5_topsTouch 26 = .ok (.iload_n 2, 1) := op_28 nb_dX5_topsTouch_20.2.2.2.2.1
theorem dX5_topsTouch_27 : decode cX5_topsTouch 27 = .ok (.iaload, 1) := op_46 nb_dX5_topsTouch_20.2.2.2.2.2.1
theorem dX5_topsTouch_28 : decode cX5_topsTouch 28 = .ok (.isub, 1) := op_100 nb_dX5_topsTouch_20.2.2.2.2.2.2.1
set_option maxRecDepth 100000 in
theorem dX5_topsTouch_29 : decode cX5_topsTouch 29 = .ok (.invokestatic 112, 3) := (op_184 nb_dX5_topsTouch_20.2.2.2.2.2.2.2.1).trans rfl
theorem dX5_topsTouch_32 : decode cX5_topsTouch 32 = .ok (.iadd, 1) := op_96 nb_dX5_topsTouch_20.2.2.2.2.2.2.2.2.1
theorem dX5_topsTouch_33 : decode cX5_topsTouch 33 = .ok (.istore_n 3, 1) := op_62 nb_dX5_topsTouch_20.2.2.2.2.2.2.2.2.2.1
theorem dX5_topsTouch_34 : decode cX5_topsTouch 34 = .ok (.iload_n 3, 1) := op_29 nb_dX5_topsTouch_20.2.2.2.2.2.2.2.2.2.2.1
theorem dX5_topsTouch_35 : decode cX5_topsTouch 35 = .ok (.iconst 1, 1) := op_4 nb_dX5_topsTouch_20.2.2.2.2.2.2.2.2.2.2.2.1
theorem nb_dX5_topsTouch_36 : bls_w cX5_topsTouch [(36, [160, 0, 23]), (39, [42]), (40, [27]), (41, [182, 0, 115]), (44, [153, 0, 15]), (47, [42]), (48, [28]), (49, [182, 0, 115]), (52, [153, 0, 7]), (55, [4]), (56, [167, 0, 4]), (59, [3])] := bls_of (by decide +kernel)
set_option maxRecDepth 100000 in
theorem dX5_topsTouch_36 : decode cX5_topsTouch 36 = .ok (.if_icmp .ne 23, 3) := (op_160 nb_dX5_topsTouch_36.1).trans rfl
theorem dX5_topsTouch_39 : decode cX5_topsTouch 39 = .ok (.aload_n 0, 1) := op_42 nb_dX5_topsTouch_36.2.1
theorem dX5_topsTouch_40 : decode cX5_topsTouch 40 = .ok (.iload_n 1, 1) := op_27 nb_dX5_topsTouch_36.2.2.1
set_option maxRecDepth 100000 in
theorem dX5_topsTouch_41 : decode cX5_topsTouch 41 = .ok (.invokevirtual 115, 3) := (op_182 nb_dX5_topsTouch_36.2.2.2.1).trans rfl
set_option maxRecDepth 100000 in
theorem dX5_topsTouch_44 : decode cX5_topsTouch 44 = .ok (.ifCond .eq 15, 3) := (op_153 nb_dX5_topsTouch_36.2.2.2.2.1).trans rfl
theorem dX5_topsTouch_47 : decode cX5_topsTouch 47 = .ok (.aload_n 0, 1) := op_42 nb_dX5_topsTouch_36.2.2.2.2.2.1
theorem dX5_topsTouch_48 : decode cX5_topsTouch 48 = .ok (.iload_n 2, 1) := op_28 nb_dX5_topsTouch_36.2.2.2.2.2.2.1
set_option maxRecDepth 100000 in
theorem dX5_topsTouch_49 : decode cX5_topsTouch 49 = .ok (.invokevirtual 115, 3) := (op_182 nb_dX5_topsTouch_36.2.2.2.2.2.2.2.1).trans rfl
set_option maxRecDepth 100000 in
theorem dX5_topsTouch_52 : decode cX5_topsTouch 52 = .ok (.ifCond .eq 7, 3) := (op_153 nb_dX5_topsTouch_36.2.2.2.2.2.2.2.2.1).trans rfl
theorem dX5_topsTouch_55 : decode cX5_topsTouch 55 = .ok (.iconst 1, 1) := op_4 nb_dX5_topsTouch_36.2.2.2.2.2.2.2.2.2.1
set_option maxRecDepth 100000 in
theorem dX5_topsTouch_56 : decode cX5_topsTouch 56 = .ok (.goto 4, 3) := (op_167 nb_dX5_topsTouch_36.2.2.2.2.2.2.2.2.2.2.1).trans rfl
theorem dX5_topsTouch_59 : decode cX5_topsTouch 59 = .ok (.iconst 0, 1) := op_3 nb_dX5_topsTouch_36.2.2.2.2.2.2.2.2.2.2.2.1
theorem nb_dX5_topsTouch_60 : bls_w cX5_topsTouch [(60, [172])] := bls_of (by decide +kernel)
theorem dX5_topsTouch_60 : decode cX5_topsTouch 60 = .ok (.ireturn, 1) := op_172 nb_dX5_topsTouch_60.1
def fX5_topsTouch (N : Nat) (x1 : Int32) (x2 : Int32) (v_rows : Int32) (v_cols : Int32) (v_rowOf : List Int32) (v_colOf : List Int32) (v_below : List Int32) : Option (Bool) :=
    mm_ck (mm_inb x1 v_rowOf.length) (mm_ck (mm_inb x2 v_rowOf.length) (mm_ck (mm_inb x1 v_colOf.length) (mm_ck (mm_inb x2 v_colOf.length) (mm_nm (((mm_abs ((mm_ig v_rowOf x1) - (mm_ig v_rowOf x2))) + (mm_abs ((mm_ig v_colOf x1) - (mm_ig v_colOf x2))))) (fun (y_5 : Int32) =>
    if y_5 = (1 : Int32) then
    (mm_bd1 (fX5_isTop N x1 v_rows v_cols v_rowOf v_colOf v_below) (fun (r_7 : Bool) =>
    if r_7 = false then
    (some (false))
    else (mm_bd1 (fX5_isTop N x2 v_rows v_cols v_rowOf v_colOf v_below) (fun (r_10 : Bool) =>
    if r_10 = false then
    (some (false))
    else (some (true))))))
    else (some (false)))))))

set_option maxHeartbeats 4000000 in
set_option maxRecDepth 100000 in
theorem ctX5_topsTouch {l : Launch} {D : va_G} {cI cL cS cH : ClassId} {a : Nat → Nat} {x1 : Int32} {x2 : Int32} {v_rows : Int32} {v_cols : Int32} {v_high : Int32} {v_wide : Int32} {v_folds : Int32} {v_wrong : Int32} {v_more : Int32} {v_rowOf : List Int32} {v_colOf : List Int32} {v_below : List Int32} {v_face : List Int32} {v_worn : List Int32} {v_last : List Int32} {v_bend : List Int32} {v_tall : List Int32} {r : Bool} {N d : Nat} (hd : 5 ≤ d) (hf : fX5_topsTouch N x1 x2 v_rows v_cols v_rowOf v_colOf v_below = some r) : mm_Ct l yX5_topsTouch cX5_topsTouch 4 (some .boolean) d D (mm_T cI cL cS cH) [.ref (a 0), .int x1, .int x2] (wd_X5 cI cL cS cH a v_rows v_cols v_high v_wide v_folds v_wrong v_more v_rowOf v_colOf v_below v_face v_worn v_last v_bend v_tall) (wd_X5 cI cL cS cH a v_rows v_cols v_high v_wide v_folds v_wrong v_more v_rowOf v_colOf v_below v_face v_worn v_last v_bend v_tall) (some (.int (mm_b r))) := by
  refine mm_of (by decide) (Nat.le_of_ble_eq_true rfl) ?_
  intro p e s m args below meth c A H locs ls C0 hP hD hA hS hl
  have C0 : mm_Cx p s m args meth c RX5 cX5_topsTouch 4 (some .boolean) D (mm_T cI cL cS cH) A := C0
  obtain ⟨hx, hb, hml, hown, hts, hr, hlocks, hK, hSt⟩ := id C0
  have hl : lv_has ls 4 [(0, .ref (a 0)), (1, .int x1), (2, .int x2)] := hl
  unfold fX5_topsTouch at hf
  refine lv_aload_n hx hb dX5_topsTouch_0 rfl (lv_at hl 0 rfl) ?_
  refine mm_get C0 hP iw_X5 0 rfl rfl 7 (by decide) fl_X5_9 rfl dX5_topsTouch_1 ?_
  refine lv_iload_n hx hb dX5_topsTouch_4 rfl (lv_at hl 1 rfl) ?_
  obtain ⟨h_1, hf⟩ := mm_cks hf
  refine mm_iald C0 hP 1 rfl h_1 dX5_topsTouch_5 ?_
  refine lv_aload_n hx hb dX5_topsTouch_6 rfl (lv_at hl 0 rfl) ?_
  refine mm_get C0 hP iw_X5 0 rfl rfl 7 (by decide) fl_X5_9 rfl dX5_topsTouch_7 ?_
  refine lv_iload_n hx hb dX5_topsTouch_10 rfl (lv_at hl 2 rfl) ?_
  obtain ⟨h_2, hf⟩ := mm_cks hf
  refine mm_iald C0 hP 1 rfl h_2 dX5_topsTouch_11 ?_
  refine lv_isub hx hb dX5_topsTouch_12 ?_
  refine mm_mabs C0 lm_X5_112 (by omega) hl.1 (mm_cat rfl) dX5_topsTouch_13 ?_
  refine lv_aload_n hx hb dX5_topsTouch_16 rfl (lv_at hl 0 rfl) ?_
  refine mm_get C0 hP iw_X5 0 rfl rfl 8 (by decide) fl_X5_15 rfl dX5_topsTouch_17 ?_
  refine lv_iload_n hx hb dX5_topsTouch_20 rfl (lv_at hl 1 rfl) ?_
  obtain ⟨h_3, hf⟩ := mm_cks hf
  refine mm_iald C0 hP 2 rfl h_3 dX5_topsTouch_21 ?_
  refine lv_aload_n hx hb dX5_topsTouch_22 rfl (lv_at hl 0 rfl) ?_
  refine mm_get C0 hP iw_X5 0 rfl rfl 8 (by decide) fl_X5_15 rfl dX5_topsTouch_23 ?_
  refine lv_iload_n hx hb dX5_topsTouch_26 rfl (lv_at hl 2 rfl) ?_
  obtain ⟨h_4, hf⟩ := mm_cks hf
  refine mm_iald C0 hP 2 rfl h_4 dX5_topsTouch_27 ?_
  refine lv_isub hx hb dX5_topsTouch_28 ?_
  refine mm_mabs C0 lm_X5_112 (by omega) hl.1 (mm_cat rfl) dX5_topsTouch_29 ?_
  refine lv_iadd hx hb dX5_topsTouch_32 ?_
  refine lv_topi (fun y_5 ey_5 => ?_)
  have hf := mm_nms hf ey_5
  refine lv_istore_n (lv' := [(3, .int y_5), (0, .ref (a 0)), (1, .int x1), (2, .int x2)]) hx hb dX5_topsTouch_33 rfl hl (by decide) rfl (fun ls hl => ?_)
  refine lv_iload_n hx hb dX5_topsTouch_34 rfl (lv_at hl 0 rfl) ?_
  refine lv_iconst (v := 1) hx hb dX5_topsTouch_35 (by decide) ?_
  refine lv_icmp_ne (tgt := 59) hx hb dX5_topsTouch_36 (by decide) (fun c_6 => ?_) (fun c_6 => ?_)
  · have hf := mm_in hf c_6
    refine lv_iconst (v := 0) hx hb dX5_topsTouch_59 (by decide) ?_
    obtain rfl := mm_inj1 hf
    exact mm_zret (v := false) C0 hP hD hS dX5_topsTouch_60 (by decide)
  · have hf := mm_ip hf c_6
    refine lv_aload_n hx hb dX5_topsTouch_39 rfl (lv_at hl 1 rfl) ?_
    refine lv_iload_n hx hb dX5_topsTouch_40 rfl (lv_at hl 2 rfl) ?_
    obtain ⟨r_7, hc_8, hf⟩ := mm_bd1s hf
    refine mm_callVF (q0 := 0) (ci := 5) (rest := []) C0 lk_X5_115 (ctX5_isTop (a := a) (d := d - 1) (by omega) hc_8) (by omega) rfl hl.1 rfl (mm_cat rfl) dX5_topsTouch_41 hP hD hA hS rfl rfl (fun H locs hP hD hS => ?_)
    refine W.eq (g2 := F0 m 44 ls [.int (mm_b r_7)]) rfl ?_
    refine lv_if_eq (tgt := 59) hx hb dX5_topsTouch_44 (by decide) (fun c_9 => ?_) (fun c_9 => ?_)
    · have hf := mm_ip hf (mm_b0 c_9)
      refine lv_iconst (v := 0) hx hb dX5_topsTouch_59 (by decide) ?_
      obtain rfl := mm_inj1 hf
      exact mm_zret (v := false) C0 hP hD hS dX5_topsTouch_60 (by decide)
    · have hf := mm_in hf (mm_b1 c_9)
      refine lv_aload_n hx hb dX5_topsTouch_47 rfl (lv_at hl 1 rfl) ?_
      refine lv_iload_n hx hb dX5_topsTouch_48 rfl (lv_at hl 3 rfl) ?_
      obtain ⟨r_10, hc_11, hf⟩ := mm_bd1s hf
      refine mm_callVF (q0 := 0) (ci := 5) (rest := []) C0 lk_X5_115 (ctX5_isTop (a := a) (d := d - 1) (by omega) hc_11) (by omega) rfl hl.1 rfl (mm_cat rfl) dX5_topsTouch_49 hP hD hA hS rfl rfl (fun H locs hP hD hS => ?_)
      refine W.eq (g2 := F0 m 52 ls [.int (mm_b r_10)]) rfl ?_
      refine lv_if_eq (tgt := 59) hx hb dX5_topsTouch_52 (by decide) (fun c_12 => ?_) (fun c_12 => ?_)
      · have hf := mm_ip hf (mm_b0 c_12)
        refine lv_iconst (v := 0) hx hb dX5_topsTouch_59 (by decide) ?_
        obtain rfl := mm_inj1 hf
        exact mm_zret (v := false) C0 hP hD hS dX5_topsTouch_60 (by decide)
      · have hf := mm_in hf (mm_b1 c_12)
        refine lv_iconst (v := 1) hx hb dX5_topsTouch_55 (by decide) ?_
        refine lv_goto (tgt := 60) hx hb dX5_topsTouch_56 (by decide) ?_
        obtain rfl := mm_inj1 hf
        exact mm_zret (v := true) C0 hP hD hS dX5_topsTouch_60 (by decide)

theorem nb_dX5_torn_0 : bls_w cX5_torn [(0, [3]), (1, [61]), (2, [3]), (3, [62]), (4, [29]), (5, [5]), (6, [42]), (7, [182, 0, 84]), (10, [104]), (11, [162, 0, 35]), (14, [42]), (15, [29])] := bls_of (by decide +kernel)
theorem dX5_torn_0 : decode cX5_torn 0 = .ok (.iconst 0, 1) := op_3 nb_dX5_torn_0.1
theorem dX5_torn_1 : decode cX5_torn 1 = .ok (.istore_n 2, 1) := op_61 nb_dX5_torn_0.2.1
theorem dX5_torn_2 : decode cX5_torn 2 = .ok (.iconst 0, 1) := op_3 nb_dX5_torn_0.2.2.1
theorem dX5_torn_3 : decode cX5_torn 3 = .ok (.istore_n 3, 1) := op_62 nb_dX5_torn_0.2.2.2.1
theorem dX5_torn_4 : decode cX5_torn 4 = .ok (.iload_n 3, 1) := op_29 nb_dX5_torn_0.2.2.2.2.1
theorem dX5_torn_5 : decode cX5_torn 5 = .ok (.iconst 2, 1) := op_5 nb_dX5_torn_0.2.2.2.2.2.1
theorem dX5_torn_6 : decode cX5_torn 6 = .ok (.aload_n 0, 1) := op_42 nb_dX5_torn_0.2.2.2.2.2.2.1
set_option maxRecDepth 100000 in
theorem dX5_torn_7 : decode cX5_torn 7 = .ok (.invokevirtual 84, 3) := (op_182 nb_dX5_torn_0.2.2.2.2.2.2.2.1).trans rfl
theorem dX5_torn_10 : decode cX5_torn 10 = .ok (.imul, 1) := op_104 nb_dX5_torn_0.2.2.2.2.2.2.2.2.1
set_option maxRecDepth 100000 in
theorem dX5_torn_11 : decode cX5_torn 11 = .ok (.if_icmp .ge 35, 3) := (op_162 nb_dX5_torn_0.2.2.2.2.2.2.2.2.2.1).trans rfl
theorem dX5_torn_14 : decode cX5_torn 14 = .ok (.aload_n 0, 1) := op_42 nb_dX5_torn_0.2.2.2.2.2.2.2.2.2.2.1
theorem dX5_torn_15 : decode cX5_torn 15 = .ok (.iload_n 3, 1) := op_29 nb_dX5_torn_0.2.2.2.2.2.2.2.2.2.2.2.1
theorem nb_dX5_torn_16 : bls_w cX5_torn [(16, [5]), (17, [108]), (18, [29]), (19, [5]), (20, [112]), (21, [182, 0, 118]), (24, [155, 0, 16]), (27, [42]), (28, [180, 0, 24]), (31, [29]), (32, [46]), (33, [27])] := bls_of (by decide +kernel)
theorem dX5_torn_16 : decode cX5_torn 16 = .ok (.iconst 2, 1) := op_5 nb_dX5_torn_16.1
theorem dX5_torn_17 : decode cX5_torn 17 = .ok (.idiv, 1) := op_108 nb_dX5_torn_16.2.1
theorem dX5_torn_18 : decode cX5_torn 18 = .ok (.iload_n 3, 1) := op_29 nb_dX5_torn_16.2.2.1
theorem dX5_torn_19 : decode cX5_torn 19 = .ok (.iconst 2, 1) := op_5 nb_dX5_torn_16.2.2.2.1
theorem dX5_torn_20 : decode cX5_torn 20 = .ok (.irem, 1) := op_112 nb_dX5_torn_16.2.2.2.2.1
set_option maxRecDepth 100000 in
theorem dX5_torn_21 : decode cX5_torn 21 = .ok (.invokevirtual 118, 3) := (op_182 nb_dX5_torn_16.2.2.2.2.2.1).trans rfl
set_option maxRecDepth 100000 in
theorem dX5_torn_24 : decode cX5_torn 24 = .ok (.ifCond .lt 16, 3) := (op_155 nb_dX5_torn_16.2.2.2.2.2.2.1).trans rfl
theorem dX5_torn_27 : decode cX5_torn 27 = .ok (.aload_n 0, 1) := op_42 nb_dX5_torn_16.2.2.2.2.2.2.2.1
set_option maxRecDepth 100000 in
theorem dX5_torn_28 : decode cX5_torn 28 = .ok (.getfield 24, 3) := (op_180 nb_dX5_torn_16.2.2.2.2.2.2.2.2.1).trans rfl
theorem dX5_torn_31 : decode cX5_torn 31 = .ok (.iload_n 3, 1) := op_29 nb_dX5_torn_16.2.2.2.2.2.2.2.2.2.1
theorem dX5_torn_32 : decode cX5_torn 32 = .ok (.iaload, 1) := op_46 nb_dX5_torn_16.2.2.2.2.2.2.2.2.2.2.1
theorem dX5_torn_33 : decode cX5_torn 33 = .ok (.iload_n 1, 1) := op_27 nb_dX5_torn_16.2.2.2.2.2.2.2.2.2.2.2.1
theorem nb_dX5_torn_34 : bls_w cX5_torn [(34, [161, 0, 6]), (37, [132, 2, 1]), (40, [132, 3, 1]), (43, [167, 255, 217]), (46, [28]), (47, [172])] := bls_of (by decide +kernel)
set_option maxRecDepth 100000 in
theorem dX5_torn_34 : decode cX5_torn 34 = .ok (.if_icmp .lt 6, 3) := (op_161 nb_dX5_torn_34.1).trans rfl
set_option maxRecDepth 100000 in
theorem dX5_torn_37 : decode cX5_torn 37 = .ok (.iinc 2 1, 3) := (op_132 nb_dX5_torn_34.2.1).trans rfl
set_option maxRecDepth 100000 in
theorem dX5_torn_40 : decode cX5_torn 40 = .ok (.iinc 3 1, 3) := (op_132 nb_dX5_torn_34.2.2.1).trans rfl
set_option maxRecDepth 100000 in
theorem dX5_torn_43 : decode cX5_torn 43 = .ok (.goto (-39), 3) := (op_167 nb_dX5_torn_34.2.2.2.1).trans rfl
theorem dX5_torn_46 : decode cX5_torn 46 = .ok (.iload_n 2, 1) := op_28 nb_dX5_torn_34.2.2.2.2.1
theorem dX5_torn_47 : decode cX5_torn 47 = .ok (.ireturn, 1) := op_172 nb_dX5_torn_34.2.2.2.2.2.1
def fX5_torn_40 (N : Nat) (k_4 : Int32 → Int32 → Int32 → Int32 → Int32 → List Int32 → Option (Int32)) (x1 : Int32) (x2 : Int32) (x3 : Int32) (v_rows : Int32) (v_cols : Int32) (v_worn : List Int32) : Option (Int32) :=
    mm_nm (x3 + (1 : Int32)) (fun (y_12 : Int32) =>
    k_4 x1 x2 y_12 v_rows v_cols v_worn)

set_option maxHeartbeats 4000000 in
set_option maxRecDepth 100000 in
theorem tX5_torn_40 {p : Program} {l : Launch} {e : Env} {s : State} {m : MethodId} {args : Array Value} {below : List Frame} {meth : Method} {c : Code} {D : va_G} {cI cL cS cH : ClassId} {A : Nat → Prop} {d : Nat} {a : Nat → Nat} (hd : 4 ≤ d) (C0 : mm_Cx p s m args meth c RX5 cX5_torn 4 (some .int) D (mm_T cI cL cS cH) A) (hA : ∀ q, s.heap.size ≤ q → A q) {v_high : Int32} {v_wide : Int32} {v_folds : Int32} {v_wrong : Int32} {v_more : Int32} {v_rowOf : List Int32} {v_colOf : List Int32} {v_below : List Int32} {v_face : List Int32} {v_last : List Int32} {v_bend : List Int32} {v_tall : List Int32} {r : Int32} (N : Nat) {k_4 : Int32 → Int32 → Int32 → Int32 → Int32 → List Int32 → Option (Int32)} (hk_4 : ∀ (x1 : Int32) (x2 : Int32) (x3 : Int32) (v_rows : Int32) (v_cols : Int32) (v_worn : List Int32) (H : Heap) (locs : List Loc) (ls : Array Slot), k_4 x1 x2 x3 v_rows v_cols v_worn = some r → va_P D mm_cl (wd_X5 cI cL cS cH a v_rows v_cols v_high v_wide v_folds v_wrong v_more v_rowOf v_colOf v_below v_face v_worn v_last v_bend v_tall) H → va_D A (wd_X5 cI cL cS cH a v_rows v_cols v_high v_wide v_folds v_wrong v_more v_rowOf v_colOf v_below v_face v_worn v_last v_bend v_tall) → va_S A s.heap H locs → lv_has ls 4 [(0, .ref (a 0)), (1, .int x1), (2, .int x2), (3, .int x3)] → W p l e (mm_rr d) s m args below meth c H locs 0 0 (mm_Z below D A (wd_X5 cI cL cS cH a v_rows v_cols v_high v_wide v_folds v_wrong v_more v_rowOf v_colOf v_below v_face v_worn v_last v_bend v_tall) (some (.int r)) args s) (F0 m 4 ls [])) : ∀ (x1 : Int32) (x2 : Int32) (x3 : Int32) (v_rows : Int32) (v_cols : Int32) (v_worn : List Int32) (H : Heap) (locs : List Loc) (ls : Array Slot), fX5_torn_40 N k_4 x1 x2 x3 v_rows v_cols v_worn = some r → va_P D mm_cl (wd_X5 cI cL cS cH a v_rows v_cols v_high v_wide v_folds v_wrong v_more v_rowOf v_colOf v_below v_face v_worn v_last v_bend v_tall) H → va_D A (wd_X5 cI cL cS cH a v_rows v_cols v_high v_wide v_folds v_wrong v_more v_rowOf v_colOf v_below v_face v_worn v_last v_bend v_tall) → va_S A s.heap H locs → lv_has ls 4 [(0, .ref (a 0)), (1, .int x1), (2, .int x2), (3, .int x3)] → W p l e (mm_rr d) s m args below meth c H locs 0 0 (mm_Z below D A (wd_X5 cI cL cS cH a v_rows v_cols v_high v_wide v_folds v_wrong v_more v_rowOf v_colOf v_below v_face v_worn v_last v_bend v_tall) (some (.int r)) args s) (F0 m 40 ls []) := by
  obtain ⟨hx, hb, hml, hown, hts, hr, hlocks, hK, hSt⟩ := id C0
  intro x1 x2 x3 v_rows v_cols v_worn H locs ls hf hP hD hS hl
  unfold fX5_torn_40 at hf
  obtain ⟨y_12, ey_12⟩ : ∃ z : Int32, z = x3 + (1 : Int32) := ⟨_, rfl⟩
  have hf := mm_nms hf ey_12
  refine lv_iinc (v := y_12) (lv' := [(3, .int y_12), (0, .ref (a 0)), (1, .int x1), (2, .int x2)]) hx hb dX5_torn_40 hl (k := 3) rfl (by rw [ey_12]; rfl) (by decide) rfl (fun ls hl => ?_)
  refine lv_goto (tgt := 4) hx hb dX5_torn_43 (by decide) ?_
  exact hk_4 _ _ _ _ _ _ H locs ls hf hP hD hS (lv_sub hl [1, 2, 3, 0] rfl)

def fX5_torn_4 (N : Nat)  : Nat → Int32 → Int32 → Int32 → Int32 → Int32 → List Int32 → Option (Int32)
  | 0 => fun _ _ _ _ _ _ => none
  | n + 1 => fun x1 x2 x3 v_rows v_cols v_worn =>
    mm_bd1 (fX5_fields N v_rows v_cols) (fun (r_1 : Int32) =>
    if ((2 : Int32) * r_1) ≤ x3 then
    (some (x2))
    else (mm_ck (mm_nz (2 : Int32)) (mm_ck (mm_nz (2 : Int32)) (mm_bd1 (fX5_neighbour N (x3 / (2 : Int32)) (mm_rem x3 (2 : Int32)) v_rows v_cols) (fun (r_6 : Int32) =>
    if r_6 < 0 then
    (fX5_torn_40 N (fX5_torn_4 N n) x1 x2 x3 v_rows v_cols v_worn)
    else (mm_ck (mm_inb x3 v_worn.length) (if (mm_ig v_worn x3) < x1 then
    (fX5_torn_40 N (fX5_torn_4 N n) x1 x2 x3 v_rows v_cols v_worn)
    else (mm_nm (x2 + (1 : Int32)) (fun (y_11 : Int32) =>
    fX5_torn_40 N (fX5_torn_4 N n) x1 y_11 x3 v_rows v_cols v_worn)))))))))

set_option maxHeartbeats 4000000 in
set_option maxRecDepth 100000 in
theorem tX5_torn_4 {p : Program} {l : Launch} {e : Env} {s : State} {m : MethodId} {args : Array Value} {below : List Frame} {meth : Method} {c : Code} {D : va_G} {cI cL cS cH : ClassId} {A : Nat → Prop} {d : Nat} {a : Nat → Nat} (hd : 4 ≤ d) (C0 : mm_Cx p s m args meth c RX5 cX5_torn 4 (some .int) D (mm_T cI cL cS cH) A) (hA : ∀ q, s.heap.size ≤ q → A q) {v_high : Int32} {v_wide : Int32} {v_folds : Int32} {v_wrong : Int32} {v_more : Int32} {v_rowOf : List Int32} {v_colOf : List Int32} {v_below : List Int32} {v_face : List Int32} {v_last : List Int32} {v_bend : List Int32} {v_tall : List Int32} {r : Int32} (N : Nat)  : ∀ (n : Nat), ∀ (x1 : Int32) (x2 : Int32) (x3 : Int32) (v_rows : Int32) (v_cols : Int32) (v_worn : List Int32) (H : Heap) (locs : List Loc) (ls : Array Slot), fX5_torn_4 N n x1 x2 x3 v_rows v_cols v_worn = some r → va_P D mm_cl (wd_X5 cI cL cS cH a v_rows v_cols v_high v_wide v_folds v_wrong v_more v_rowOf v_colOf v_below v_face v_worn v_last v_bend v_tall) H → va_D A (wd_X5 cI cL cS cH a v_rows v_cols v_high v_wide v_folds v_wrong v_more v_rowOf v_colOf v_below v_face v_worn v_last v_bend v_tall) → va_S A s.heap H locs → lv_has ls 4 [(0, .ref (a 0)), (1, .int x1), (2, .int x2), (3, .int x3)] → W p l e (mm_rr d) s m args below meth c H locs 0 0 (mm_Z below D A (wd_X5 cI cL cS cH a v_rows v_cols v_high v_wide v_folds v_wrong v_more v_rowOf v_colOf v_below v_face v_worn v_last v_bend v_tall) (some (.int r)) args s) (F0 m 4 ls []) := by
  obtain ⟨hx, hb, hml, hown, hts, hr, hlocks, hK, hSt⟩ := id C0
  intro n
  induction n with
  | zero =>
    intro x1 x2 x3 v_rows v_cols v_worn H locs ls hf
    cases (show none = some _ from hf)
  | succ n ih =>
    intro x1 x2 x3 v_rows v_cols v_worn H locs ls hf hP hD hS hl
    unfold fX5_torn_4 at hf
    refine lv_iload_n hx hb dX5_torn_4 rfl (lv_at hl 3 rfl) ?_
    refine lv_iconst (v := 2) hx hb dX5_torn_5 (by decide) ?_
    refine lv_aload_n hx hb dX5_torn_6 rfl (lv_at hl 0 rfl) ?_
    obtain ⟨r_1, hc_2, hf⟩ := mm_bd1s hf
    refine mm_callVF (q0 := 0) (ci := 5) (rest := [.int (2 : Int32), .int x3]) C0 lk_X5_84 (ctX5_fields (a := a) (d := d - 1) (by omega) hc_2) (by omega) rfl hl.1 rfl (mm_cat rfl) dX5_torn_7 hP hD hA hS rfl rfl (fun H locs hP hD hS => ?_)
    refine W.eq (g2 := F0 m 10 ls [.int r_1, .int (2 : Int32), .int x3]) rfl ?_
    refine lv_imul hx hb dX5_torn_10 ?_
    refine lv_icmp_ge (tgt := 46) hx hb dX5_torn_11 (by decide) (fun c_3 => ?_) (fun c_3 => ?_)
    · have hf := mm_ip hf c_3
      refine lv_iload_n hx hb dX5_torn_46 rfl (lv_at hl 2 rfl) ?_
      obtain rfl := mm_inj1 hf
      exact mm_iret C0 hP hD hS dX5_torn_47
    · have hf := mm_in hf c_3
      refine lv_aload_n hx hb dX5_torn_14 rfl (lv_at hl 0 rfl) ?_
      refine lv_iload_n hx hb dX5_torn_15 rfl (lv_at hl 3 rfl) ?_
      refine lv_iconst (v := 2) hx hb dX5_torn_16 (by decide) ?_
      obtain ⟨h_4, hf⟩ := mm_cks hf
      refine lv_idiv hx hb dX5_torn_17 (mm_nzs h_4) ?_
      refine lv_iload_n hx hb dX5_torn_18 rfl (lv_at hl 3 rfl) ?_
      refine lv_iconst (v := 2) hx hb dX5_torn_19 (by decide) ?_
      obtain ⟨h_5, hf⟩ := mm_cks hf
      refine lv_irem hx hb dX5_torn_20 (mm_nzs h_5) ?_
      obtain ⟨r_6, hc_7, hf⟩ := mm_bd1s hf
      refine mm_callVF (q0 := 0) (ci := 5) (rest := []) C0 lk_X5_118 (ctX5_neighbour (a := a) (d := d - 1) (by omega) hc_7) (by omega) rfl hl.1 rfl (mm_cat rfl) dX5_torn_21 hP hD hA hS rfl rfl (fun H locs hP hD hS => ?_)
      refine W.eq (g2 := F0 m 24 ls [.int r_6]) rfl ?_
      refine lv_if_lt (tgt := 40) hx hb dX5_torn_24 (by decide) (fun c_8 => ?_) (fun c_8 => ?_)
      · have hf := mm_ip hf c_8
        exact tX5_torn_40 hd C0 hA N ih _ _ _ _ _ _ H locs ls hf hP hD hS (lv_sub hl [0, 1, 2, 3] rfl)
      · have hf := mm_in hf c_8
        refine lv_aload_n hx hb dX5_torn_27 rfl (lv_at hl 0 rfl) ?_
        refine mm_get C0 hP iw_X5 0 rfl rfl 11 (by decide) fl_X5_24 rfl dX5_torn_28 ?_
        refine lv_iload_n hx hb dX5_torn_31 rfl (lv_at hl 3 rfl) ?_
        obtain ⟨h_9, hf⟩ := mm_cks hf
        refine mm_iald C0 hP 5 rfl h_9 dX5_torn_32 ?_
        refine lv_iload_n hx hb dX5_torn_33 rfl (lv_at hl 1 rfl) ?_
        refine lv_icmp_lt (tgt := 40) hx hb dX5_torn_34 (by decide) (fun c_10 => ?_) (fun c_10 => ?_)
        · have hf := mm_ip hf c_10
          exact tX5_torn_40 hd C0 hA N ih _ _ _ _ _ _ H locs ls hf hP hD hS (lv_sub hl [0, 1, 2, 3] rfl)
        · have hf := mm_in hf c_10
          obtain ⟨y_11, ey_11⟩ : ∃ z : Int32, z = x2 + (1 : Int32) := ⟨_, rfl⟩
          have hf := mm_nms hf ey_11
          refine lv_iinc (v := y_11) (lv' := [(2, .int y_11), (0, .ref (a 0)), (1, .int x1), (3, .int x3)]) hx hb dX5_torn_37 hl (k := 2) rfl (by rw [ey_11]; rfl) (by decide) rfl (fun ls hl => ?_)
          exact tX5_torn_40 hd C0 hA N ih _ _ _ _ _ _ H locs ls hf hP hD hS (lv_sub hl [1, 2, 0, 3] rfl)

def fX5_torn (N : Nat) (x1 : Int32) (v_rows : Int32) (v_cols : Int32) (v_worn : List Int32) : Option (Int32) :=
    fX5_torn_4 N N x1 (0 : Int32) (0 : Int32) v_rows v_cols v_worn

set_option maxHeartbeats 4000000 in
set_option maxRecDepth 100000 in
theorem ctX5_torn {l : Launch} {D : va_G} {cI cL cS cH : ClassId} {a : Nat → Nat} {x1 : Int32} {v_rows : Int32} {v_cols : Int32} {v_high : Int32} {v_wide : Int32} {v_folds : Int32} {v_wrong : Int32} {v_more : Int32} {v_rowOf : List Int32} {v_colOf : List Int32} {v_below : List Int32} {v_face : List Int32} {v_worn : List Int32} {v_last : List Int32} {v_bend : List Int32} {v_tall : List Int32} {r : Int32} {N d : Nat} (hd : 4 ≤ d) (hf : fX5_torn N x1 v_rows v_cols v_worn = some r) : mm_Ct l yX5_torn cX5_torn 4 (some .int) d D (mm_T cI cL cS cH) [.ref (a 0), .int x1] (wd_X5 cI cL cS cH a v_rows v_cols v_high v_wide v_folds v_wrong v_more v_rowOf v_colOf v_below v_face v_worn v_last v_bend v_tall) (wd_X5 cI cL cS cH a v_rows v_cols v_high v_wide v_folds v_wrong v_more v_rowOf v_colOf v_below v_face v_worn v_last v_bend v_tall) (some (.int r)) := by
  refine mm_of (by decide) (Nat.le_of_ble_eq_true rfl) ?_
  intro p e s m args below meth c A H locs ls C0 hP hD hA hS hl
  have C0 : mm_Cx p s m args meth c RX5 cX5_torn 4 (some .int) D (mm_T cI cL cS cH) A := C0
  obtain ⟨hx, hb, hml, hown, hts, hr, hlocks, hK, hSt⟩ := id C0
  have hl : lv_has ls 4 [(0, .ref (a 0)), (1, .int x1)] := hl
  unfold fX5_torn at hf
  refine lv_iconst (v := 0) hx hb dX5_torn_0 (by decide) ?_
  refine lv_istore_n (lv' := [(2, .int (0 : Int32)), (0, .ref (a 0)), (1, .int x1)]) hx hb dX5_torn_1 rfl hl (by decide) rfl (fun ls hl => ?_)
  refine lv_iconst (v := 0) hx hb dX5_torn_2 (by decide) ?_
  refine lv_istore_n (lv' := [(3, .int (0 : Int32)), (2, .int (0 : Int32)), (0, .ref (a 0)), (1, .int x1)]) hx hb dX5_torn_3 rfl hl (by decide) rfl (fun ls hl => ?_)
  exact tX5_torn_4 hd C0 hA N  N _ _ _ _ _ _ H locs ls hf hP hD hS (lv_sub hl [2, 3, 1, 0] rfl)

theorem nb_dX5_across_0 : bls_w cX5_across [(0, [28]), (1, [7]), (2, [162, 0, 12]), (5, [42]), (6, [180, 0, 9]), (9, [27]), (10, [46]), (11, [167, 0, 9]), (14, [42]), (15, [180, 0, 15]), (18, [27]), (19, [46])] := bls_of (by decide +kernel)
theorem dX5_across_0 : decode cX5_across 0 = .ok (.iload_n 2, 1) := op_28 nb_dX5_across_0.1
theorem dX5_across_1 : decode cX5_across 1 = .ok (.iconst 4, 1) := op_7 nb_dX5_across_0.2.1
set_option maxRecDepth 100000 in
theorem dX5_across_2 : decode cX5_across 2 = .ok (.if_icmp .ge 12, 3) := (op_162 nb_dX5_across_0.2.2.1).trans rfl
theorem dX5_across_5 : decode cX5_across 5 = .ok (.aload_n 0, 1) := op_42 nb_dX5_across_0.2.2.2.1
set_option maxRecDepth 100000 in
theorem dX5_across_6 : decode cX5_across 6 = .ok (.getfield 9, 3) := (op_180 nb_dX5_across_0.2.2.2.2.1).trans rfl
theorem dX5_across_9 : decode cX5_across 9 = .ok (.iload_n 1, 1) := op_27 nb_dX5_across_0.2.2.2.2.2.1
theorem dX5_across_10 : decode cX5_across 10 = .ok (.iaload, 1) := op_46 nb_dX5_across_0.2.2.2.2.2.2.1
set_option maxRecDepth 100000 in
theorem dX5_across_11 : decode cX5_across 11 = .ok (.goto 9, 3) := (op_167 nb_dX5_across_0.2.2.2.2.2.2.2.1).trans rfl
theorem dX5_across_14 : decode cX5_across 14 = .ok (.aload_n 0, 1) := op_42 nb_dX5_across_0.2.2.2.2.2.2.2.2.1
set_option maxRecDepth 100000 in
theorem dX5_across_15 : decode cX5_across 15 = .ok (.getfield 15, 3) := (op_180 nb_dX5_across_0.2.2.2.2.2.2.2.2.2.1).trans rfl
theorem dX5_across_18 : decode cX5_across 18 = .ok (.iload_n 1, 1) := op_27 nb_dX5_across_0.2.2.2.2.2.2.2.2.2.2.1
theorem dX5_across_19 : decode cX5_across 19 = .ok (.iaload, 1) := op_46 nb_dX5_across_0.2.2.2.2.2.2.2.2.2.2.2.1
theorem nb_dX5_across_20 : bls_w cX5_across [(20, [172])] := bls_of (by decide +kernel)
theorem dX5_across_20 : decode cX5_across 20 = .ok (.ireturn, 1) := op_172 nb_dX5_across_20.1
def fX5_across (N : Nat) (x1 : Int32) (x2 : Int32) (v_rowOf : List Int32) (v_colOf : List Int32) : Option (Int32) :=
    if (4 : Int32) ≤ x2 then
    (mm_ck (mm_inb x1 v_colOf.length) (some ((mm_ig v_colOf x1))))
    else (mm_ck (mm_inb x1 v_rowOf.length) (some ((mm_ig v_rowOf x1))))

set_option maxHeartbeats 4000000 in
set_option maxRecDepth 100000 in
theorem ctX5_across {l : Launch} {D : va_G} {cI cL cS cH : ClassId} {a : Nat → Nat} {x1 : Int32} {x2 : Int32} {v_rows : Int32} {v_cols : Int32} {v_high : Int32} {v_wide : Int32} {v_folds : Int32} {v_wrong : Int32} {v_more : Int32} {v_rowOf : List Int32} {v_colOf : List Int32} {v_below : List Int32} {v_face : List Int32} {v_worn : List Int32} {v_last : List Int32} {v_bend : List Int32} {v_tall : List Int32} {r : Int32} {N d : Nat} (hd : 1 ≤ d) (hf : fX5_across N x1 x2 v_rowOf v_colOf = some r) : mm_Ct l yX5_across cX5_across 3 (some .int) d D (mm_T cI cL cS cH) [.ref (a 0), .int x1, .int x2] (wd_X5 cI cL cS cH a v_rows v_cols v_high v_wide v_folds v_wrong v_more v_rowOf v_colOf v_below v_face v_worn v_last v_bend v_tall) (wd_X5 cI cL cS cH a v_rows v_cols v_high v_wide v_folds v_wrong v_more v_rowOf v_colOf v_below v_face v_worn v_last v_bend v_tall) (some (.int r)) := by
  refine mm_of (by decide) (Nat.le_of_ble_eq_true rfl) ?_
  intro p e s m args below meth c A H locs ls C0 hP hD hA hS hl
  have C0 : mm_Cx p s m args meth c RX5 cX5_across 3 (some .int) D (mm_T cI cL cS cH) A := C0
  obtain ⟨hx, hb, hml, hown, hts, hr, hlocks, hK, hSt⟩ := id C0
  have hl : lv_has ls 3 [(0, .ref (a 0)), (1, .int x1), (2, .int x2)] := hl
  unfold fX5_across at hf
  refine lv_iload_n hx hb dX5_across_0 rfl (lv_at hl 2 rfl) ?_
  refine lv_iconst (v := 4) hx hb dX5_across_1 (by decide) ?_
  refine lv_icmp_ge (tgt := 14) hx hb dX5_across_2 (by decide) (fun c_1 => ?_) (fun c_1 => ?_)
  · have hf := mm_ip hf c_1
    refine lv_aload_n hx hb dX5_across_14 rfl (lv_at hl 0 rfl) ?_
    refine mm_get C0 hP iw_X5 0 rfl rfl 8 (by decide) fl_X5_15 rfl dX5_across_15 ?_
    refine lv_iload_n hx hb dX5_across_18 rfl (lv_at hl 1 rfl) ?_
    obtain ⟨h_2, hf⟩ := mm_cks hf
    refine mm_iald C0 hP 2 rfl h_2 dX5_across_19 ?_
    obtain rfl := mm_inj1 hf
    exact mm_iret C0 hP hD hS dX5_across_20
  · have hf := mm_in hf c_1
    refine lv_aload_n hx hb dX5_across_5 rfl (lv_at hl 0 rfl) ?_
    refine mm_get C0 hP iw_X5 0 rfl rfl 7 (by decide) fl_X5_9 rfl dX5_across_6 ?_
    refine lv_iload_n hx hb dX5_across_9 rfl (lv_at hl 1 rfl) ?_
    obtain ⟨h_3, hf⟩ := mm_cks hf
    refine mm_iald C0 hP 1 rfl h_3 dX5_across_10 ?_
    refine lv_goto (tgt := 20) hx hb dX5_across_11 (by decide) ?_
    obtain rfl := mm_inj1 hf
    exact mm_iret C0 hP hD hS dX5_across_20

theorem nb_dX5_along_0 : bls_w cX5_along [(0, [28]), (1, [7]), (2, [162, 0, 12]), (5, [42]), (6, [180, 0, 15]), (9, [27]), (10, [46]), (11, [167, 0, 9]), (14, [42]), (15, [180, 0, 9]), (18, [27]), (19, [46])] := bls_of (by decide +kernel)
theorem dX5_along_0 : decode cX5_along 0 = .ok (.iload_n 2, 1) := op_28 nb_dX5_along_0.1
theorem dX5_along_1 : decode cX5_along 1 = .ok (.iconst 4, 1) := op_7 nb_dX5_along_0.2.1
set_option maxRecDepth 100000 in
theorem dX5_along_2 : decode cX5_along 2 = .ok (.if_icmp .ge 12, 3) := (op_162 nb_dX5_along_0.2.2.1).trans rfl
theorem dX5_along_5 : decode cX5_along 5 = .ok (.aload_n 0, 1) := op_42 nb_dX5_along_0.2.2.2.1
set_option maxRecDepth 100000 in
theorem dX5_along_6 : decode cX5_along 6 = .ok (.getfield 15, 3) := (op_180 nb_dX5_along_0.2.2.2.2.1).trans rfl
theorem dX5_along_9 : decode cX5_along 9 = .ok (.iload_n 1, 1) := op_27 nb_dX5_along_0.2.2.2.2.2.1
theorem dX5_along_10 : decode cX5_along 10 = .ok (.iaload, 1) := op_46 nb_dX5_along_0.2.2.2.2.2.2.1
set_option maxRecDepth 100000 in
theorem dX5_along_11 : decode cX5_along 11 = .ok (.goto 9, 3) := (op_167 nb_dX5_along_0.2.2.2.2.2.2.2.1).trans rfl
theorem dX5_along_14 : decode cX5_along 14 = .ok (.aload_n 0, 1) := op_42 nb_dX5_along_0.2.2.2.2.2.2.2.2.1
set_option maxRecDepth 100000 in
theorem dX5_along_15 : decode cX5_along 15 = .ok (.getfield 9, 3) := (op_180 nb_dX5_along_0.2.2.2.2.2.2.2.2.2.1).trans rfl
theorem dX5_along_18 : decode cX5_along 18 = .ok (.iload_n 1, 1) := op_27 nb_dX5_along_0.2.2.2.2.2.2.2.2.2.2.1
theorem dX5_along_19 : decode cX5_along 19 = .ok (.iaload, 1) := op_46 nb_dX5_along_0.2.2.2.2.2.2.2.2.2.2.2.1
theorem nb_dX5_along_20 : bls_w cX5_along [(20, [172])] := bls_of (by decide +kernel)
theorem dX5_along_20 : decode cX5_along 20 = .ok (.ireturn, 1) := op_172 nb_dX5_along_20.1
def fX5_along (N : Nat) (x1 : Int32) (x2 : Int32) (v_rowOf : List Int32) (v_colOf : List Int32) : Option (Int32) :=
    if (4 : Int32) ≤ x2 then
    (mm_ck (mm_inb x1 v_rowOf.length) (some ((mm_ig v_rowOf x1))))
    else (mm_ck (mm_inb x1 v_colOf.length) (some ((mm_ig v_colOf x1))))

set_option maxHeartbeats 4000000 in
set_option maxRecDepth 100000 in
theorem ctX5_along {l : Launch} {D : va_G} {cI cL cS cH : ClassId} {a : Nat → Nat} {x1 : Int32} {x2 : Int32} {v_rows : Int32} {v_cols : Int32} {v_high : Int32} {v_wide : Int32} {v_folds : Int32} {v_wrong : Int32} {v_more : Int32} {v_rowOf : List Int32} {v_colOf : List Int32} {v_below : List Int32} {v_face : List Int32} {v_worn : List Int32} {v_last : List Int32} {v_bend : List Int32} {v_tall : List Int32} {r : Int32} {N d : Nat} (hd : 1 ≤ d) (hf : fX5_along N x1 x2 v_rowOf v_colOf = some r) : mm_Ct l yX5_along cX5_along 3 (some .int) d D (mm_T cI cL cS cH) [.ref (a 0), .int x1, .int x2] (wd_X5 cI cL cS cH a v_rows v_cols v_high v_wide v_folds v_wrong v_more v_rowOf v_colOf v_below v_face v_worn v_last v_bend v_tall) (wd_X5 cI cL cS cH a v_rows v_cols v_high v_wide v_folds v_wrong v_more v_rowOf v_colOf v_below v_face v_worn v_last v_bend v_tall) (some (.int r)) := by
  refine mm_of (by decide) (Nat.le_of_ble_eq_true rfl) ?_
  intro p e s m args below meth c A H locs ls C0 hP hD hA hS hl
  have C0 : mm_Cx p s m args meth c RX5 cX5_along 3 (some .int) D (mm_T cI cL cS cH) A := C0
  obtain ⟨hx, hb, hml, hown, hts, hr, hlocks, hK, hSt⟩ := id C0
  have hl : lv_has ls 3 [(0, .ref (a 0)), (1, .int x1), (2, .int x2)] := hl
  unfold fX5_along at hf
  refine lv_iload_n hx hb dX5_along_0 rfl (lv_at hl 2 rfl) ?_
  refine lv_iconst (v := 4) hx hb dX5_along_1 (by decide) ?_
  refine lv_icmp_ge (tgt := 14) hx hb dX5_along_2 (by decide) (fun c_1 => ?_) (fun c_1 => ?_)
  · have hf := mm_ip hf c_1
    refine lv_aload_n hx hb dX5_along_14 rfl (lv_at hl 0 rfl) ?_
    refine mm_get C0 hP iw_X5 0 rfl rfl 7 (by decide) fl_X5_9 rfl dX5_along_15 ?_
    refine lv_iload_n hx hb dX5_along_18 rfl (lv_at hl 1 rfl) ?_
    obtain ⟨h_2, hf⟩ := mm_cks hf
    refine mm_iald C0 hP 1 rfl h_2 dX5_along_19 ?_
    obtain rfl := mm_inj1 hf
    exact mm_iret C0 hP hD hS dX5_along_20
  · have hf := mm_in hf c_1
    refine lv_aload_n hx hb dX5_along_5 rfl (lv_at hl 0 rfl) ?_
    refine mm_get C0 hP iw_X5 0 rfl rfl 8 (by decide) fl_X5_15 rfl dX5_along_6 ?_
    refine lv_iload_n hx hb dX5_along_9 rfl (lv_at hl 1 rfl) ?_
    obtain ⟨h_3, hf⟩ := mm_cks hf
    refine mm_iald C0 hP 2 rfl h_3 dX5_along_10 ?_
    refine lv_goto (tgt := 20) hx hb dX5_along_11 (by decide) ?_
    obtain rfl := mm_inj1 hf
    exact mm_iret C0 hP hD hS dX5_along_20
end
