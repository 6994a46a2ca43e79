/-! parts: X2_readNumber, X2_isName, X2_readProduct, X2_readSum, X2_readCompared, X2_readBoth, X2_readEither, X2_readOne, X2_readLine -/
theorem dX2_readNumber_0 : decode cX2_readNumber 0 = .ok (.iconst 0, 1) := by decide +kernel
theorem dX2_readNumber_1 : decode cX2_readNumber 1 = .ok (.istore_n 1, 1) := by decide +kernel
theorem dX2_readNumber_2 : decode cX2_readNumber 2 = .ok (.iconst 0, 1) := by decide +kernel
theorem dX2_readNumber_3 : decode cX2_readNumber 3 = .ok (.istore_n 2, 1) := by decide +kernel
theorem dX2_readNumber_4 : decode cX2_readNumber 4 = .ok (.iload_n 2, 1) := by decide +kernel
theorem dX2_readNumber_5 : decode cX2_readNumber 5 = .ok (.iconst 4, 1) := by decide +kernel
theorem dX2_readNumber_6 : decode cX2_readNumber 6 = .ok (.if_icmp .ge 42, 3) := by decide +kernel
theorem dX2_readNumber_9 : decode cX2_readNumber 9 = .ok (.aload_n 0, 1) := by decide +kernel
theorem dX2_readNumber_10 : decode cX2_readNumber 10 = .ok (.invokevirtual 72, 3) := by decide +kernel
theorem dX2_readNumber_13 : decode cX2_readNumber 13 = .ok (.invokestatic 82, 3) := by decide +kernel
theorem dX2_readNumber_16 : decode cX2_readNumber 16 = .ok (.ifCond .eq 32, 3) := by decide +kernel
theorem dX2_readNumber_19 : decode cX2_readNumber 19 = .ok (.iload_n 1, 1) := by decide +kernel
theorem dX2_readNumber_20 : decode cX2_readNumber 20 = .ok (.bipush 10, 2) := by decide +kernel
theorem dX2_readNumber_22 : decode cX2_readNumber 22 = .ok (.imul, 1) := by decide +kernel
theorem dX2_readNumber_23 : decode cX2_readNumber 23 = .ok (.aload_n 0, 1) := by decide +kernel
theorem dX2_readNumber_24 : decode cX2_readNumber 24 = .ok (.invokevirtual 72, 3) := by decide +kernel
theorem dX2_readNumber_27 : decode cX2_readNumber 27 = .ok (.iadd, 1) := by decide +kernel
theorem dX2_readNumber_28 : decode cX2_readNumber 28 = .ok (.bipush 48, 2) := by decide +kernel
theorem dX2_readNumber_30 : decode cX2_readNumber 30 = .ok (.isub, 1) := by decide +kernel
theorem dX2_readNumber_31 : decode cX2_readNumber 31 = .ok (.istore_n 1, 1) := by decide +kernel
theorem dX2_readNumber_32 : decode cX2_readNumber 32 = .ok (.aload_n 0, 1) := by decide +kernel
theorem dX2_readNumber_33 : decode cX2_readNumber 33 = .ok (.dup, 1) := by decide +kernel
theorem dX2_readNumber_34 : decode cX2_readNumber 34 = .ok (.getfield 28, 3) := by decide +kernel
theorem dX2_readNumber_37 : decode cX2_readNumber 37 = .ok (.iconst 1, 1) := by decide +kernel
theorem dX2_readNumber_38 : decode cX2_readNumber 38 = .ok (.iadd, 1) := by decide +kernel
theorem dX2_readNumber_39 : decode cX2_readNumber 39 = .ok (.putfield 28, 3) := by decide +kernel
theorem dX2_readNumber_42 : decode cX2_readNumber 42 = .ok (.iinc 2 1, 3) := by decide +kernel
theorem dX2_readNumber_45 : decode cX2_readNumber 45 = .ok (.goto (-41), 3) := by decide +kernel
theorem dX2_readNumber_48 : decode cX2_readNumber 48 = .ok (.aload_n 0, 1) := by decide +kernel
theorem dX2_readNumber_49 : decode cX2_readNumber 49 = .ok (.sipush 1000, 3) := by decide +kernel
theorem dX2_readNumber_52 : decode cX2_readNumber 52 = .ok (.iload_n 1, 1) := by decide +kernel
theorem dX2_readNumber_53 : decode cX2_readNumber 53 = .ok (.iadd, 1) := by decide +kernel
theorem dX2_readNumber_54 : decode cX2_readNumber 54 = .ok (.invokevirtual 60, 3) := by decide +kernel
theorem dX2_readNumber_57 : decode cX2_readNumber 57 = .ok (.return_, 1) := by decide +kernel
def fX2_readNumber_48 (N : Nat)  (x1 : Int32) (v_size : Int32) (v_draftCount : Int32) (v_place : Int32) (v_tape : List Int32) (v_draft : List Int32) : Option (Int32 × Int32 × List Int32) :=
    mm_bd2 (fX2_note N ((1000 : Int32) + x1) v_draftCount v_draft) (fun (w_12 : Int32) (w_13 : List Int32) =>
    some (w_12, v_place, w_13))

set_option maxHeartbeats 4000000 in
set_option maxRecDepth 100000 in
theorem tX2_readNumber_48 {p : Program} {l : Launch} {e : Env} {s : State} {m : MethodId} {args : Array Value} {below : List Frame} {meth : Method} {c : Code} {D : va_G} {cI cL cS cH : ClassId} {A : Nat → Prop} {d : Nat} {a : Nat → Nat} (hd : 2 ≤ d) (C0 : mm_Cx p s m args meth c RX2 cX2_readNumber 3 none D (mm_T cI cL cS cH) A) (hA : ∀ q, s.heap.size ≤ q → A q) {v_stepCount : Int32} {v_fault : Int32} {v_stacked : Int32} {v_steps : List Int32} {v_stack : List Int32} {w_draftCount : Int32} {w_place : Int32} {w_draft : List Int32} (N : Nat)  : ∀ (x1 : Int32) (v_size : Int32) (v_draftCount : Int32) (v_place : Int32) (v_tape : List Int32) (v_draft : List Int32) (H : Heap) (locs : List Loc) (ls : Array Slot), fX2_readNumber_48 N x1 v_size v_draftCount v_place v_tape v_draft = some (w_draftCount, w_place, w_draft) → va_P D mm_cl (wd_X2 cI cL cS cH a v_size v_stepCount v_draftCount v_place v_fault v_stacked v_tape v_steps v_draft v_stack) H → va_D A (wd_X2 cI cL cS cH a v_size v_stepCount v_draftCount v_place v_fault v_stacked v_tape v_steps v_draft v_stack) → va_S A s.heap H locs → lv_has ls 3 [(0, .ref (a 0)), (1, .int x1)] → W p l e (mm_rr d) s m args below meth c H locs 0 0 (mm_Z below D A (wd_X2 cI cL cS cH a v_size v_stepCount w_draftCount w_place v_fault v_stacked v_tape v_steps w_draft v_stack) none args s) (F0 m 48 ls []) := by
  obtain ⟨hx, hb, hml, hown, hts, hr, hlocks, hK, hSt⟩ := id C0
  intro x1 v_size v_draftCount v_place v_tape v_draft H locs ls hf hP hD hS hl
  unfold fX2_readNumber_48 at hf
  refine lv_aload_n hx hb dX2_readNumber_48 rfl (lv_at hl 0 rfl) ?_
  refine lv_sipush (v := 1000) hx hb dX2_readNumber_49 (by decide) ?_
  refine lv_iload_n hx hb dX2_readNumber_52 rfl (lv_at hl 1 rfl) ?_
  refine lv_iadd hx hb dX2_readNumber_53 ?_
  obtain ⟨w_12, w_13, hc_14, hf⟩ := mm_bd2s hf
  refine mm_callVF (q0 := 0) (ci := 2) (rest := []) C0 lk_X2_60 (ctX2_note (a := a) (d := d - 1) (by omega) hc_14) (by omega) rfl hl.1 rfl (mm_cat rfl) dX2_readNumber_54 hP hD hA hS rfl rfl (fun H locs hP hD hS => ?_)
  refine W.eq (g2 := F0 m 57 ls []) rfl ?_
  apply mm_sub3 hf
  exact mm_vret C0 hP hD hS dX2_readNumber_57

def fX2_readNumber_4 (N : Nat)  : Nat → Int32 → Int32 → Int32 → Int32 → Int32 → List Int32 → List Int32 → Option (Int32 × Int32 × List Int32)
  | 0 => fun _ _ _ _ _ _ _ => none
  | n + 1 => fun x1 x2 v_size v_draftCount v_place v_tape v_draft =>
    if (4 : Int32) ≤ x2 then
    (fX2_readNumber_48 N x1 v_size v_draftCount v_place v_tape v_draft)
    else (mm_bd1 (fX2_next N v_size v_place v_tape) (fun (r_2 : Int32) =>
    mm_bd1 (fX2_isDigit N r_2) (fun (r_4 : Bool) =>
    if r_4 = false then
    (fX2_readNumber_48 N x1 v_size v_draftCount v_place v_tape v_draft)
    else (mm_bd1 (fX2_next N v_size v_place v_tape) (fun (r_7 : Int32) =>
    mm_nm ((((x1 * (10 : Int32)) + r_7) - (48 : Int32))) (fun (y_9 : Int32) =>
    mm_nm ((v_place + (1 : Int32))) (fun (y_10 : Int32) =>
    mm_nm (x2 + (1 : Int32)) (fun (y_11 : Int32) =>
    fX2_readNumber_4 N n y_9 y_11 v_size v_draftCount y_10 v_tape v_draft))))))))

set_option maxHeartbeats 4000000 in
set_option maxRecDepth 100000 in
theorem tX2_readNumber_4 {p : Program} {l : Launch} {e : Env} {s : State} {m : MethodId} {args : Array Value} {below : List Frame} {meth : Method} {c : Code} {D : va_G} {cI cL cS cH : ClassId} {A : Nat → Prop} {d : Nat} {a : Nat → Nat} (hd : 2 ≤ d) (C0 : mm_Cx p s m args meth c RX2 cX2_readNumber 3 none D (mm_T cI cL cS cH) A) (hA : ∀ q, s.heap.size ≤ q → A q) {v_stepCount : Int32} {v_fault : Int32} {v_stacked : Int32} {v_steps : List Int32} {v_stack : List Int32} {w_draftCount : Int32} {w_place : Int32} {w_draft : List Int32} (N : Nat)  : ∀ (n : Nat), ∀ (x1 : Int32) (x2 : Int32) (v_size : Int32) (v_draftCount : Int32) (v_place : Int32) (v_tape : List Int32) (v_draft : List Int32) (H : Heap) (locs : List Loc) (ls : Array Slot), fX2_readNumber_4 N n x1 x2 v_size v_draftCount v_place v_tape v_draft = some (w_draftCount, w_place, w_draft) → va_P D mm_cl (wd_X2 cI cL cS cH a v_size v_stepCount v_draftCount v_place v_fault v_stacked v_tape v_steps v_draft v_stack) H → va_D A (wd_X2 cI cL cS cH a v_size v_stepCount v_draftCount v_place v_fault v_stacked v_tape v_steps v_draft v_stack) → va_S A s.heap H locs → lv_has ls 3 [(0, .ref (a 0)), (1, .int x1), (2, .int x2)] → W p l e (mm_rr d) s m args below meth c H locs 0 0 (mm_Z below D A (wd_X2 cI cL cS cH a v_size v_stepCount w_draftCount w_place v_fault v_stacked v_tape v_steps w_draft v_stack) none args s) (F0 m 4 ls []) := by
  obtain ⟨hx, hb, hml, hown, hts, hr, hlocks, hK, hSt⟩ := id C0
  intro n
  induction n with
  | zero =>
    intro x1 x2 v_size v_draftCount v_place v_tape v_draft H locs ls hf
    cases (show none = some _ from hf)
  | succ n ih =>
    intro x1 x2 v_size v_draftCount v_place v_tape v_draft H locs ls hf hP hD hS hl
    unfold fX2_readNumber_4 at hf
    refine lv_iload_n hx hb dX2_readNumber_4 rfl (lv_at hl 2 rfl) ?_
    refine lv_iconst (v := 4) hx hb dX2_readNumber_5 (by decide) ?_
    refine lv_icmp_ge (tgt := 48) hx hb dX2_readNumber_6 (by decide) (fun c_1 => ?_) (fun c_1 => ?_)
    · have hf := mm_ip hf c_1
      exact tX2_readNumber_48 hd C0 hA N  _ _ _ _ _ _ H locs ls hf hP hD hS (lv_sub hl [0, 1] rfl)
    · have hf := mm_in hf c_1
      refine lv_aload_n hx hb dX2_readNumber_9 rfl (lv_at hl 0 rfl) ?_
      obtain ⟨r_2, hc_3, hf⟩ := mm_bd1s hf
      refine mm_callVF (q0 := 0) (ci := 2) (rest := []) C0 lk_X2_72 (ctX2_next (a := a) (d := d - 1) (by omega) hc_3) (by omega) rfl hl.1 rfl (mm_cat rfl) dX2_readNumber_10 hP hD hA hS rfl rfl (fun H locs hP hD hS => ?_)
      refine W.eq (g2 := F0 m 13 ls [.int r_2]) rfl ?_
      obtain ⟨r_4, hc_5, hf⟩ := mm_bd1s hf
      refine mm_callS0 (rest := []) C0 lk_X2_82 (ctX2_isDigit (d := d - 1) (by omega) hc_5) (by omega) rfl hl.1 rfl (mm_cat rfl) dX2_readNumber_13 hP hD hA hS (fun H locs hP hS => ?_)
      refine W.eq (g2 := F0 m 16 ls [.int (mm_b r_4)]) rfl ?_
      refine lv_if_eq (tgt := 48) hx hb dX2_readNumber_16 (by decide) (fun c_6 => ?_) (fun c_6 => ?_)
      · have hf := mm_ip hf (mm_b0 c_6)
        exact tX2_readNumber_48 hd C0 hA N  _ _ _ _ _ _ H locs ls hf hP hD hS (lv_sub hl [0, 1] rfl)
      · have hf := mm_in hf (mm_b1 c_6)
        refine lv_iload_n hx hb dX2_readNumber_19 rfl (lv_at hl 1 rfl) ?_
        refine lv_bipush (v := 10) hx hb dX2_readNumber_20 (by decide) ?_
        refine lv_imul hx hb dX2_readNumber_22 ?_
        refine lv_aload_n hx hb dX2_readNumber_23 rfl (lv_at hl 0 rfl) ?_
        obtain ⟨r_7, hc_8, hf⟩ := mm_bd1s hf
        refine mm_callVF (q0 := 0) (ci := 2) (rest := [.int (x1 * (10 : Int32))]) C0 lk_X2_72 (ctX2_next (a := a) (d := d - 1) (by omega) hc_8) (by omega) rfl hl.1 rfl (mm_cat rfl) dX2_readNumber_24 hP hD hA hS rfl rfl (fun H locs hP hD hS => ?_)
        refine W.eq (g2 := F0 m 27 ls [.int r_7, .int (x1 * (10 : Int32))]) rfl ?_
        refine lv_iadd hx hb dX2_readNumber_27 ?_
        refine lv_bipush (v := 48) hx hb dX2_readNumber_28 (by decide) ?_
        refine lv_isub hx hb dX2_readNumber_30 ?_
        refine lv_topi (fun y_9 ey_9 => ?_)
        have hf := mm_nms hf ey_9
        refine lv_istore_n (lv' := [(1, .int y_9), (0, .ref (a 0)), (2, .int x2)]) hx hb dX2_readNumber_31 rfl hl (by decide) rfl (fun ls hl => ?_)
        refine lv_aload_n hx hb dX2_readNumber_32 rfl (lv_at hl 1 rfl) ?_
        refine lv_dup hx hb dX2_readNumber_33 rfl ?_
        refine mm_get C0 hP iw_X2 0 rfl rfl 6 (by decide) fl_X2_28 rfl dX2_readNumber_34 ?_
        refine lv_iconst (v := 1) hx hb dX2_readNumber_37 (by decide) ?_
        refine lv_iadd hx hb dX2_readNumber_38 ?_
        refine lv_topi (fun y_10 ey_10 => ?_)
        have hf := mm_nms hf ey_10
        refine mm_put C0 hP hD hS iw_X2 tyX2 tyX2_ok nmX2 0 rfl rfl 6 (by decide) fl_X2_28 rfl rfl rfl (Nat.le_of_ble_eq_true rfl) dX2_readNumber_39 (w2 := (wd_X2 cI cL cS cH a v_size v_stepCount v_draftCount y_10 v_fault v_stacked v_tape v_steps v_draft v_stack)) rfl (fun H locs hP hD hS => ?_)
        obtain ⟨y_11, ey_11⟩ : ∃ z : Int32, z = x2 + (1 : Int32) := ⟨_, rfl⟩
        have hf := mm_nms hf ey_11
        refine lv_iinc (v := y_11) (lv' := [(2, .int y_11), (1, .int y_9), (0, .ref (a 0))]) hx hb dX2_readNumber_42 hl (k := 2) rfl (by rw [ey_11]; rfl) (by decide) rfl (fun ls hl => ?_)
        refine lv_goto (tgt := 4) hx hb dX2_readNumber_45 (by decide) ?_
        exact ih _ _ _ _ _ _ _ H locs ls hf hP hD hS (lv_sub hl [2, 1, 0] rfl)

def fX2_readNumber (N : Nat) (v_size : Int32) (v_draftCount : Int32) (v_place : Int32) (v_tape : List Int32) (v_draft : List Int32) : Option (Int32 × Int32 × List Int32) :=
    fX2_readNumber_4 N N (0 : Int32) (0 : Int32) v_size v_draftCount v_place v_tape v_draft

set_option maxHeartbeats 4000000 in
set_option maxRecDepth 100000 in
theorem ctX2_readNumber {l : Launch} {D : va_G} {cI cL cS cH : ClassId} {a : Nat → Nat}  {v_size : Int32} {v_stepCount : Int32} {v_draftCount : Int32} {v_place : Int32} {v_fault : Int32} {v_stacked : Int32} {v_tape : List Int32} {v_steps : List Int32} {v_draft : List Int32} {v_stack : List Int32} {w_draftCount : Int32} {w_place : Int32} {w_draft : List Int32} {N d : Nat} (hd : 2 ≤ d) (hf : fX2_readNumber N v_size v_draftCount v_place v_tape v_draft = some (w_draftCount, w_place, w_draft)) : mm_Ct l yX2_readNumber cX2_readNumber 3 none d D (mm_T cI cL cS cH) [.ref (a 0)] (wd_X2 cI cL cS cH a v_size v_stepCount v_draftCount v_place v_fault v_stacked v_tape v_steps v_draft v_stack) (wd_X2 cI cL cS cH a v_size v_stepCount w_draftCount w_place v_fault v_stacked v_tape v_steps w_draft v_stack) none := by
  refine mm_of (by decide) (Nat.le_of_ble_eq_true rfl) ?_
  intro p e s m args below meth c A H locs ls C0 hP hD hA hS hl
  have C0 : mm_Cx p s m args meth c RX2 cX2_readNumber 3 none D (mm_T cI cL cS cH) A := C0
  obtain ⟨hx, hb, hml, hown, hts, hr, hlocks, hK, hSt⟩ := id C0
  have hl : lv_has ls 3 [(0, .ref (a 0))] := hl
  unfold fX2_readNumber at hf
  refine lv_iconst (v := 0) hx hb dX2_readNumber_0 (by decide) ?_
  refine lv_istore_n (lv' := [(1, .int (0 : Int32)), (0, .ref (a 0))]) hx hb dX2_readNumber_1 rfl hl (by decide) rfl (fun ls hl => ?_)
  refine lv_iconst (v := 0) hx hb dX2_readNumber_2 (by decide) ?_
  refine lv_istore_n (lv' := [(2, .int (0 : Int32)), (1, .int (0 : Int32)), (0, .ref (a 0))]) hx hb dX2_readNumber_3 rfl hl (by decide) rfl (fun ls hl => ?_)
  exact tX2_readNumber_4 hd C0 hA N  N _ _ _ _ _ _ _ H locs ls hf hP hD hS (lv_sub hl [2, 1, 0] rfl)

theorem dX2_isName_0 : decode cX2_isName 0 = .ok (.iload_n 0, 1) := by decide +kernel
theorem dX2_isName_1 : decode cX2_isName 1 = .ok (.lookupswitch 61 #[(98, 59), (102, 59), (107, 59), (110, 59), (114, 59), (119, 59)], 59) := by decide +kernel
theorem dX2_isName_60 : decode cX2_isName 60 = .ok (.iconst 1, 1) := by decide +kernel
theorem dX2_isName_61 : decode cX2_isName 61 = .ok (.ireturn, 1) := by decide +kernel
theorem dX2_isName_62 : decode cX2_isName 62 = .ok (.iconst 0, 1) := by decide +kernel
theorem dX2_isName_63 : decode cX2_isName 63 = .ok (.ireturn, 1) := by decide +kernel
def fX2_isName (N : Nat) (x0 : Int32) : Option (Bool) :=
    if x0 = (98 : Int32) then
    (some (true))
    else (if x0 = (102 : Int32) then
    (some (true))
    else (if x0 = (107 : Int32) then
    (some (true))
    else (if x0 = (110 : Int32) then
    (some (true))
    else (if x0 = (114 : Int32) then
    (some (true))
    else (if x0 = (119 : Int32) then
    (some (true))
    else (some (false)))))))

set_option maxHeartbeats 4000000 in
set_option maxRecDepth 100000 in
theorem ctX2_isName {l : Launch} {D : va_G} {cI cL cS cH : ClassId} {x0 : Int32}  {r : Bool} {N d : Nat} (hd : 1 ≤ d) (hf : fX2_isName N x0 = some r) : mm_Ct l yX2_isName cX2_isName 1 (some .boolean) d D (mm_T cI cL cS cH) [.int x0] ([] : va_W) ([] : va_W) (some (.int (mm_b r))) := by
  refine mm_of (by decide) (Nat.le_of_ble_eq_true rfl) ?_
  intro p e s m args below meth c A H locs ls C0 hP hD hA hS hl
  have C0 : mm_Cx p s m args meth c RX2 cX2_isName 1 (some .boolean) D (mm_T cI cL cS cH) A := C0
  obtain ⟨hx, hb, hml, hown, hts, hr, hlocks, hK, hSt⟩ := id C0
  have hl : lv_has ls 1 [(0, .int x0)] := hl
  unfold fX2_isName at hf
  refine lv_iload_n hx hb dX2_isName_0 rfl (lv_at hl 0 rfl) ?_
  by_cases c_1 : x0 = (98 : Int32)
  · have hf := mm_ip hf c_1
    refine lv_lookup (off := 59) (tgt := 60) hx hb dX2_isName_1 (by decide) (by rw [c_1]; first | done | rfl | decide) (by decide) ?_
    refine lv_iconst (v := 1) hx hb dX2_isName_60 (by decide) ?_
    obtain rfl := mm_inj1 hf
    exact mm_zret (v := true) C0 hP hD hS dX2_isName_61 (by decide)
  · have hf := mm_in hf c_1
    by_cases c_2 : x0 = (102 : Int32)
    · have hf := mm_ip hf c_2
      refine lv_lookup (off := 59) (tgt := 60) hx hb dX2_isName_1 (by decide) (by rw [c_2]; first | done | rfl | decide) (by decide) ?_
      refine lv_iconst (v := 1) hx hb dX2_isName_60 (by decide) ?_
      obtain rfl := mm_inj1 hf
      exact mm_zret (v := true) C0 hP hD hS dX2_isName_61 (by decide)
    · have hf := mm_in hf c_2
      by_cases c_3 : x0 = (107 : Int32)
      · have hf := mm_ip hf c_3
        refine lv_lookup (off := 59) (tgt := 60) hx hb dX2_isName_1 (by decide) (by rw [c_3]; first | done | rfl | decide) (by decide) ?_
        refine lv_iconst (v := 1) hx hb dX2_isName_60 (by decide) ?_
        obtain rfl := mm_inj1 hf
        exact mm_zret (v := true) C0 hP hD hS dX2_isName_61 (by decide)
      · have hf := mm_in hf c_3
        by_cases c_4 : x0 = (110 : Int32)
        · have hf := mm_ip hf c_4
          refine lv_lookup (off := 59) (tgt := 60) hx hb dX2_isName_1 (by decide) (by rw [c_4]; first | done | rfl | decide) (by decide) ?_
          refine lv_iconst (v := 1) hx hb dX2_isName_60 (by decide) ?_
          obtain rfl := mm_inj1 hf
          exact mm_zret (v := true) C0 hP hD hS dX2_isName_61 (by decide)
        · have hf := mm_in hf c_4
          by_cases c_5 : x0 = (114 : Int32)
          · have hf := mm_ip hf c_5
            refine lv_lookup (off := 59) (tgt := 60) hx hb dX2_isName_1 (by decide) (by rw [c_5]; first | done | rfl | decide) (by decide) ?_
            refine lv_iconst (v := 1) hx hb dX2_isName_60 (by decide) ?_
            obtain rfl := mm_inj1 hf
            exact mm_zret (v := true) C0 hP hD hS dX2_isName_61 (by decide)
          · have hf := mm_in hf c_5
            by_cases c_6 : x0 = (119 : Int32)
            · have hf := mm_ip hf c_6
              refine lv_lookup (off := 59) (tgt := 60) hx hb dX2_isName_1 (by decide) (by rw [c_6]; first | done | rfl | decide) (by decide) ?_
              refine lv_iconst (v := 1) hx hb dX2_isName_60 (by decide) ?_
              obtain rfl := mm_inj1 hf
              exact mm_zret (v := true) C0 hP hD hS dX2_isName_61 (by decide)
            · have hf := mm_in hf c_6
              refine lv_lookup (off := 61) (tgt := 62) hx hb dX2_isName_1 (by decide) ((lv_osw c_1 (by decide)).trans ((lv_osw c_2 (by decide)).trans ((lv_osw c_3 (by decide)).trans ((lv_osw c_4 (by decide)).trans ((lv_osw c_5 (by decide)).trans ((lv_osw c_6 (by decide)).trans (rfl))))))) (by decide) ?_
              refine lv_iconst (v := 0) hx hb dX2_isName_62 (by decide) ?_
              obtain rfl := mm_inj1 hf
              exact mm_zret (v := false) C0 hP hD hS dX2_isName_63 (by decide)

theorem dX2_readProduct_0 : decode cX2_readProduct 0 = .ok (.aload_n 0, 1) := by decide +kernel
theorem dX2_readProduct_1 : decode cX2_readProduct 1 = .ok (.iload_n 1, 1) := by decide +kernel
theorem dX2_readProduct_2 : decode cX2_readProduct 2 = .ok (.invokevirtual 79, 3) := by decide +kernel
theorem dX2_readProduct_5 : decode cX2_readProduct 5 = .ok (.iconst 0, 1) := by decide +kernel
theorem dX2_readProduct_6 : decode cX2_readProduct 6 = .ok (.istore_n 2, 1) := by decide +kernel
theorem dX2_readProduct_7 : decode cX2_readProduct 7 = .ok (.iload_n 2, 1) := by decide +kernel
theorem dX2_readProduct_8 : decode cX2_readProduct 8 = .ok (.bipush 120, 2) := by decide +kernel
theorem dX2_readProduct_10 : decode cX2_readProduct 10 = .ok (.if_icmp .ge 61, 3) := by decide +kernel
theorem dX2_readProduct_13 : decode cX2_readProduct 13 = .ok (.aload_n 0, 1) := by decide +kernel
theorem dX2_readProduct_14 : decode cX2_readProduct 14 = .ok (.bipush 42, 2) := by decide +kernel
theorem dX2_readProduct_16 : decode cX2_readProduct 16 = .ok (.invokevirtual 40, 3) := by decide +kernel
theorem dX2_readProduct_19 : decode cX2_readProduct 19 = .ok (.ifCond .ne 21, 3) := by decide +kernel
theorem dX2_readProduct_22 : decode cX2_readProduct 22 = .ok (.aload_n 0, 1) := by decide +kernel
theorem dX2_readProduct_23 : decode cX2_readProduct 23 = .ok (.bipush 47, 2) := by decide +kernel
theorem dX2_readProduct_25 : decode cX2_readProduct 25 = .ok (.invokevirtual 40, 3) := by decide +kernel
theorem dX2_readProduct_28 : decode cX2_readProduct 28 = .ok (.ifCond .ne 12, 3) := by decide +kernel
theorem dX2_readProduct_31 : decode cX2_readProduct 31 = .ok (.aload_n 0, 1) := by decide +kernel
theorem dX2_readProduct_32 : decode cX2_readProduct 32 = .ok (.bipush 37, 2) := by decide +kernel
theorem dX2_readProduct_34 : decode cX2_readProduct 34 = .ok (.invokevirtual 40, 3) := by decide +kernel
theorem dX2_readProduct_37 : decode cX2_readProduct 37 = .ok (.ifCond .eq 34, 3) := by decide +kernel
theorem dX2_readProduct_40 : decode cX2_readProduct 40 = .ok (.aload_n 0, 1) := by decide +kernel
theorem dX2_readProduct_41 : decode cX2_readProduct 41 = .ok (.invokevirtual 72, 3) := by decide +kernel
theorem dX2_readProduct_44 : decode cX2_readProduct 44 = .ok (.istore_n 3, 1) := by decide +kernel
theorem dX2_readProduct_45 : decode cX2_readProduct 45 = .ok (.aload_n 0, 1) := by decide +kernel
theorem dX2_readProduct_46 : decode cX2_readProduct 46 = .ok (.dup, 1) := by decide +kernel
theorem dX2_readProduct_47 : decode cX2_readProduct 47 = .ok (.getfield 28, 3) := by decide +kernel
theorem dX2_readProduct_50 : decode cX2_readProduct 50 = .ok (.iconst 1, 1) := by decide +kernel
theorem dX2_readProduct_51 : decode cX2_readProduct 51 = .ok (.iadd, 1) := by decide +kernel
theorem dX2_readProduct_52 : decode cX2_readProduct 52 = .ok (.putfield 28, 3) := by decide +kernel
theorem dX2_readProduct_55 : decode cX2_readProduct 55 = .ok (.aload_n 0, 1) := by decide +kernel
theorem dX2_readProduct_56 : decode cX2_readProduct 56 = .ok (.iload_n 1, 1) := by decide +kernel
theorem dX2_readProduct_57 : decode cX2_readProduct 57 = .ok (.invokevirtual 79, 3) := by decide +kernel
theorem dX2_readProduct_60 : decode cX2_readProduct 60 = .ok (.aload_n 0, 1) := by decide +kernel
theorem dX2_readProduct_61 : decode cX2_readProduct 61 = .ok (.iload_n 3, 1) := by decide +kernel
theorem dX2_readProduct_62 : decode cX2_readProduct 62 = .ok (.invokevirtual 60, 3) := by decide +kernel
theorem dX2_readProduct_65 : decode cX2_readProduct 65 = .ok (.iinc 2 1, 3) := by decide +kernel
theorem dX2_readProduct_68 : decode cX2_readProduct 68 = .ok (.goto (-61), 3) := by decide +kernel
theorem dX2_readProduct_71 : decode cX2_readProduct 71 = .ok (.return_, 1) := by decide +kernel
def fX2_readProduct_40 (N : Nat) (go : Int32 → Int32 → Int32 → Int32 → Int32 → List Int32 → List Int32 → Option (Int32 × Int32 × Int32 × List Int32)) (k_7 : Int32 → Int32 → Int32 → Int32 → Int32 → Int32 → List Int32 → List Int32 → Option (Int32 × Int32 × Int32 × List Int32)) (x1 : Int32) (x2 : Int32) (v_size : Int32) (v_draftCount : Int32) (v_place : Int32) (v_fault : Int32) (v_tape : List Int32) (v_draft : List Int32) : Option (Int32 × Int32 × Int32 × List Int32) :=
    mm_bd1 (fX2_next N v_size v_place v_tape) (fun (r_16 : Int32) =>
    mm_nm ((v_place + (1 : Int32))) (fun (y_18 : Int32) =>
    mm_bd4 (go x1 v_size v_draftCount y_18 v_fault v_tape v_draft) (fun (w_19 : Int32) (w_20 : Int32) (w_21 : Int32) (w_22 : List Int32) =>
    mm_bd2 (fX2_note N r_16 w_19 w_22) (fun (w_24 : Int32) (w_25 : List Int32) =>
    mm_nm (x2 + (1 : Int32)) (fun (y_27 : Int32) =>
    k_7 x1 y_27 v_size w_24 w_20 w_21 v_tape w_25)))))

set_option maxHeartbeats 4000000 in
set_option maxRecDepth 100000 in
theorem tX2_readProduct_40 {p : Program} {l : Launch} {e : Env} {s : State} {m : MethodId} {args : Array Value} {below : List Frame} {meth : Method} {c : Code} {D : va_G} {cI cL cS cH : ClassId} {A : Nat → Prop} {d : Nat} {a : Nat → Nat} {go : Int32 → Int32 → Int32 → Int32 → Int32 → List Int32 → List Int32 → Option (Int32 × Int32 × Int32 × List Int32)} {dgo : Nat} (hgo : ∀ (a : Nat → Nat) (x1 : Int32) (v_size : Int32) (v_stepCount : Int32) (v_draftCount : Int32) (v_place : Int32) (v_fault : Int32) (v_stacked : Int32) (v_tape : List Int32) (v_steps : List Int32) (v_draft : List Int32) (v_stack : List Int32) (w_draftCount : Int32) (w_place : Int32) (w_fault : Int32) (w_draft : List Int32), go x1 v_size v_draftCount v_place v_fault v_tape v_draft = some (w_draftCount, w_place, w_fault, w_draft) → mm_Ct l yX2_readOne cX2_readOne 3 none dgo D (mm_T cI cL cS cH) [.ref (a 0), .int x1] (wd_X2 cI cL cS cH a v_size v_stepCount v_draftCount v_place v_fault v_stacked v_tape v_steps v_draft v_stack) (wd_X2 cI cL cS cH a v_size v_stepCount w_draftCount w_place w_fault v_stacked v_tape v_steps w_draft v_stack) none) (hE : 2 ≤ dgo) (hd : dgo + 1 ≤ d) (C0 : mm_Cx p s m args meth c RX2 cX2_readProduct 4 none D (mm_T cI cL cS cH) A) (hA : ∀ q, s.heap.size ≤ q → A q) {v_stepCount : Int32} {v_stacked : Int32} {v_steps : List Int32} {v_stack : List Int32} {w_draftCount : Int32} {w_place : Int32} {w_fault : Int32} {w_draft : List Int32} (N : Nat) {k_7 : Int32 → Int32 → Int32 → Int32 → Int32 → Int32 → List Int32 → List Int32 → Option (Int32 × Int32 × Int32 × List Int32)} (hk_7 : ∀ (x1 : Int32) (x2 : Int32) (v_size : Int32) (v_draftCount : Int32) (v_place : Int32) (v_fault : Int32) (v_tape : List Int32) (v_draft : List Int32) (H : Heap) (locs : List Loc) (ls : Array Slot), k_7 x1 x2 v_size v_draftCount v_place v_fault v_tape v_draft = some (w_draftCount, w_place, w_fault, w_draft) → va_P D mm_cl (wd_X2 cI cL cS cH a v_size v_stepCount v_draftCount v_place v_fault v_stacked v_tape v_steps v_draft v_stack) H → va_D A (wd_X2 cI cL cS cH a v_size v_stepCount v_draftCount v_place v_fault v_stacked v_tape v_steps v_draft v_stack) → va_S A s.heap H locs → lv_has ls 4 [(0, .ref (a 0)), (1, .int x1), (2, .int x2)] → W p l e (mm_rr d) s m args below meth c H locs 0 0 (mm_Z below D A (wd_X2 cI cL cS cH a v_size v_stepCount w_draftCount w_place w_fault v_stacked v_tape v_steps w_draft v_stack) none args s) (F0 m 7 ls [])) : ∀ (x1 : Int32) (x2 : Int32) (v_size : Int32) (v_draftCount : Int32) (v_place : Int32) (v_fault : Int32) (v_tape : List Int32) (v_draft : List Int32) (H : Heap) (locs : List Loc) (ls : Array Slot), fX2_readProduct_40 N go k_7 x1 x2 v_size v_draftCount v_place v_fault v_tape v_draft = some (w_draftCount, w_place, w_fault, w_draft) → va_P D mm_cl (wd_X2 cI cL cS cH a v_size v_stepCount v_draftCount v_place v_fault v_stacked v_tape v_steps v_draft v_stack) H → va_D A (wd_X2 cI cL cS cH a v_size v_stepCount v_draftCount v_place v_fault v_stacked v_tape v_steps v_draft v_stack) → va_S A s.heap H locs → lv_has ls 4 [(0, .ref (a 0)), (1, .int x1), (2, .int x2)] → W p l e (mm_rr d) s m args below meth c H locs 0 0 (mm_Z below D A (wd_X2 cI cL cS cH a v_size v_stepCount w_draftCount w_place w_fault v_stacked v_tape v_steps w_draft v_stack) none args s) (F0 m 40 ls []) := by
  obtain ⟨hx, hb, hml, hown, hts, hr, hlocks, hK, hSt⟩ := id C0
  intro x1 x2 v_size v_draftCount v_place v_fault v_tape v_draft H locs ls hf hP hD hS hl
  unfold fX2_readProduct_40 at hf
  refine lv_aload_n hx hb dX2_readProduct_40 rfl (lv_at hl 0 rfl) ?_
  obtain ⟨r_16, hc_17, hf⟩ := mm_bd1s hf
  refine mm_callVF (q0 := 0) (ci := 2) (rest := []) C0 lk_X2_72 (ctX2_next (a := a) (d := d - 1) (by omega) hc_17) (by omega) rfl hl.1 rfl (mm_cat rfl) dX2_readProduct_41 hP hD hA hS rfl rfl (fun H locs hP hD hS => ?_)
  refine W.eq (g2 := F0 m 44 ls [.int r_16]) rfl ?_
  refine lv_istore_n (lv' := [(3, .int r_16), (0, .ref (a 0)), (1, .int x1), (2, .int x2)]) hx hb dX2_readProduct_44 rfl hl (by decide) rfl (fun ls hl => ?_)
  refine lv_aload_n hx hb dX2_readProduct_45 rfl (lv_at hl 1 rfl) ?_
  refine lv_dup hx hb dX2_readProduct_46 rfl ?_
  refine mm_get C0 hP iw_X2 0 rfl rfl 6 (by decide) fl_X2_28 rfl dX2_readProduct_47 ?_
  refine lv_iconst (v := 1) hx hb dX2_readProduct_50 (by decide) ?_
  refine lv_iadd hx hb dX2_readProduct_51 ?_
  refine lv_topi (fun y_18 ey_18 => ?_)
  have hf := mm_nms hf ey_18
  refine mm_put C0 hP hD hS iw_X2 tyX2 tyX2_ok nmX2 0 rfl rfl 6 (by decide) fl_X2_28 rfl rfl rfl (Nat.le_of_ble_eq_true rfl) dX2_readProduct_52 (w2 := (wd_X2 cI cL cS cH a v_size v_stepCount v_draftCount y_18 v_fault v_stacked v_tape v_steps v_draft v_stack)) rfl (fun H locs hP hD hS => ?_)
  refine lv_aload_n hx hb dX2_readProduct_55 rfl (lv_at hl 1 rfl) ?_
  refine lv_iload_n hx hb dX2_readProduct_56 rfl (lv_at hl 2 rfl) ?_
  obtain ⟨w_19, w_20, w_21, w_22, hc_23, hf⟩ := mm_bd4s hf
  refine mm_callVF (q0 := 0) (ci := 2) (rest := []) C0 lk_X2_79 (hgo a _ _ _ _ _ _ _ _ _ _ _ _ _ _ _ hc_23) (by omega) rfl hl.1 rfl (mm_cat rfl) dX2_readProduct_57 hP hD hA hS rfl rfl (fun H locs hP hD hS => ?_)
  refine W.eq (g2 := F0 m 60 ls []) rfl ?_
  refine lv_aload_n hx hb dX2_readProduct_60 rfl (lv_at hl 1 rfl) ?_
  refine lv_iload_n hx hb dX2_readProduct_61 rfl (lv_at hl 0 rfl) ?_
  obtain ⟨w_24, w_25, hc_26, hf⟩ := mm_bd2s hf
  refine mm_callVF (q0 := 0) (ci := 2) (rest := []) C0 lk_X2_60 (ctX2_note (a := a) (d := d - 1) (by omega) hc_26) (by omega) rfl hl.1 rfl (mm_cat rfl) dX2_readProduct_62 hP hD hA hS rfl rfl (fun H locs hP hD hS => ?_)
  refine W.eq (g2 := F0 m 65 ls []) rfl ?_
  obtain ⟨y_27, ey_27⟩ : ∃ z : Int32, z = x2 + (1 : Int32) := ⟨_, rfl⟩
  have hf := mm_nms hf ey_27
  refine lv_iinc (v := y_27) (lv' := [(2, .int y_27), (3, .int r_16), (0, .ref (a 0)), (1, .int x1)]) hx hb dX2_readProduct_65 hl (k := 3) rfl (by rw [ey_27]; rfl) (by decide) rfl (fun ls hl => ?_)
  refine lv_goto (tgt := 7) hx hb dX2_readProduct_68 (by decide) ?_
  exact hk_7 _ _ _ _ _ _ _ _ H locs ls hf hP hD hS (lv_sub hl [2, 3, 0] rfl)

def fX2_readProduct_7 (N : Nat) (go : Int32 → Int32 → Int32 → Int32 → Int32 → List Int32 → List Int32 → Option (Int32 × Int32 × Int32 × List Int32))  : Nat → Int32 → Int32 → Int32 → Int32 → Int32 → Int32 → List Int32 → List Int32 → Option (Int32 × Int32 × Int32 × List Int32)
  | 0 => fun _ _ _ _ _ _ _ _ => none
  | n + 1 => fun x1 x2 v_size v_draftCount v_place v_fault v_tape v_draft =>
    if (120 : Int32) ≤ x2 then
    (some (v_draftCount, v_place, v_fault, v_draft))
    else (mm_bd1 (fX2_meets N (42 : Int32) v_size v_place v_fault v_tape) (fun (r_7 : Bool) =>
    if r_7 = false then
    (mm_bd1 (fX2_meets N (47 : Int32) v_size v_place v_fault v_tape) (fun (r_10 : Bool) =>
    if r_10 = false then
    (mm_bd1 (fX2_meets N (37 : Int32) v_size v_place v_fault v_tape) (fun (r_13 : Bool) =>
    if r_13 = false then
    (some (v_draftCount, v_place, v_fault, v_draft))
    else (fX2_readProduct_40 N go (fX2_readProduct_7 N go n) x1 x2 v_size v_draftCount v_place v_fault v_tape v_draft)))
    else (fX2_readProduct_40 N go (fX2_readProduct_7 N go n) x1 x2 v_size v_draftCount v_place v_fault v_tape v_draft)))
    else (fX2_readProduct_40 N go (fX2_readProduct_7 N go n) x1 x2 v_size v_draftCount v_place v_fault v_tape v_draft)))

set_option maxHeartbeats 4000000 in
set_option maxRecDepth 100000 in
theorem tX2_readProduct_7 {p : Program} {l : Launch} {e : Env} {s : State} {m : MethodId} {args : Array Value} {below : List Frame} {meth : Method} {c : Code} {D : va_G} {cI cL cS cH : ClassId} {A : Nat → Prop} {d : Nat} {a : Nat → Nat} {go : Int32 → Int32 → Int32 → Int32 → Int32 → List Int32 → List Int32 → Option (Int32 × Int32 × Int32 × List Int32)} {dgo : Nat} (hgo : ∀ (a : Nat → Nat) (x1 : Int32) (v_size : Int32) (v_stepCount : Int32) (v_draftCount : Int32) (v_place : Int32) (v_fault : Int32) (v_stacked : Int32) (v_tape : List Int32) (v_steps : List Int32) (v_draft : List Int32) (v_stack : List Int32) (w_draftCount : Int32) (w_place : Int32) (w_fault : Int32) (w_draft : List Int32), go x1 v_size v_draftCount v_place v_fault v_tape v_draft = some (w_draftCount, w_place, w_fault, w_draft) → mm_Ct l yX2_readOne cX2_readOne 3 none dgo D (mm_T cI cL cS cH) [.ref (a 0), .int x1] (wd_X2 cI cL cS cH a v_size v_stepCount v_draftCount v_place v_fault v_stacked v_tape v_steps v_draft v_stack) (wd_X2 cI cL cS cH a v_size v_stepCount w_draftCount w_place w_fault v_stacked v_tape v_steps w_draft v_stack) none) (hE : 2 ≤ dgo) (hd : dgo + 1 ≤ d) (C0 : mm_Cx p s m args meth c RX2 cX2_readProduct 4 none D (mm_T cI cL cS cH) A) (hA : ∀ q, s.heap.size ≤ q → A q) {v_stepCount : Int32} {v_stacked : Int32} {v_steps : List Int32} {v_stack : List Int32} {w_draftCount : Int32} {w_place : Int32} {w_fault : Int32} {w_draft : List Int32} (N : Nat)  : ∀ (n : Nat), ∀ (x1 : Int32) (x2 : Int32) (v_size : Int32) (v_draftCount : Int32) (v_place : Int32) (v_fault : Int32) (v_tape : List Int32) (v_draft : List Int32) (H : Heap) (locs : List Loc) (ls : Array Slot), fX2_readProduct_7 N go n x1 x2 v_size v_draftCount v_place v_fault v_tape v_draft = some (w_draftCount, w_place, w_fault, w_draft) → va_P D mm_cl (wd_X2 cI cL cS cH a v_size v_stepCount v_draftCount v_place v_fault v_stacked v_tape v_steps v_draft v_stack) H → va_D A (wd_X2 cI cL cS cH a v_size v_stepCount v_draftCount v_place v_fault v_stacked v_tape v_steps v_draft v_stack) → va_S A s.heap H locs → lv_has ls 4 [(0, .ref (a 0)), (1, .int x1), (2, .int x2)] → W p l e (mm_rr d) s m args below meth c H locs 0 0 (mm_Z below D A (wd_X2 cI cL cS cH a v_size v_stepCount w_draftCount w_place w_fault v_stacked v_tape v_steps w_draft v_stack) none args s) (F0 m 7 ls []) := by
  obtain ⟨hx, hb, hml, hown, hts, hr, hlocks, hK, hSt⟩ := id C0
  intro n
  induction n with
  | zero =>
    intro x1 x2 v_size v_draftCount v_place v_fault v_tape v_draft H locs ls hf
    cases (show none = some _ from hf)
  | succ n ih =>
    intro x1 x2 v_size v_draftCount v_place v_fault v_tape v_draft H locs ls hf hP hD hS hl
    unfold fX2_readProduct_7 at hf
    refine lv_iload_n hx hb dX2_readProduct_7 rfl (lv_at hl 2 rfl) ?_
    refine lv_bipush (v := 120) hx hb dX2_readProduct_8 (by decide) ?_
    refine lv_icmp_ge (tgt := 71) hx hb dX2_readProduct_10 (by decide) (fun c_6 => ?_) (fun c_6 => ?_)
    · have hf := mm_ip hf c_6
      apply mm_sub4 hf
      exact mm_vret C0 hP hD hS dX2_readProduct_71
    · have hf := mm_in hf c_6
      refine lv_aload_n hx hb dX2_readProduct_13 rfl (lv_at hl 0 rfl) ?_
      refine lv_bipush (v := 42) hx hb dX2_readProduct_14 (by decide) ?_
      obtain ⟨r_7, hc_8, hf⟩ := mm_bd1s hf
      refine mm_callVF (q0 := 0) (ci := 2) (rest := []) C0 lk_X2_40 (ctX2_meets (a := a) (d := d - 1) (by omega) hc_8) (by omega) rfl hl.1 rfl (mm_cat rfl) dX2_readProduct_16 hP hD hA hS rfl rfl (fun H locs hP hD hS => ?_)
      refine W.eq (g2 := F0 m 19 ls [.int (mm_b r_7)]) rfl ?_
      refine lv_if_ne (tgt := 40) hx hb dX2_readProduct_19 (by decide) (fun c_9 => ?_) (fun c_9 => ?_)
      · have hf := mm_in hf (mm_b1 c_9)
        exact tX2_readProduct_40 hgo hE hd C0 hA N ih _ _ _ _ _ _ _ _ H locs ls hf hP hD hS (lv_sub hl [0, 1, 2] rfl)
      · have hf := mm_ip hf (mm_b0 c_9)
        refine lv_aload_n hx hb dX2_readProduct_22 rfl (lv_at hl 0 rfl) ?_
        refine lv_bipush (v := 47) hx hb dX2_readProduct_23 (by decide) ?_
        obtain ⟨r_10, hc_11, hf⟩ := mm_bd1s hf
        refine mm_callVF (q0 := 0) (ci := 2) (rest := []) C0 lk_X2_40 (ctX2_meets (a := a) (d := d - 1) (by omega) hc_11) (by omega) rfl hl.1 rfl (mm_cat rfl) dX2_readProduct_25 hP hD hA hS rfl rfl (fun H locs hP hD hS => ?_)
        refine W.eq (g2 := F0 m 28 ls [.int (mm_b r_10)]) rfl ?_
        refine lv_if_ne (tgt := 40) hx hb dX2_readProduct_28 (by decide) (fun c_12 => ?_) (fun c_12 => ?_)
        · have hf := mm_in hf (mm_b1 c_12)
          exact tX2_readProduct_40 hgo hE hd C0 hA N ih _ _ _ _ _ _ _ _ H locs ls hf hP hD hS (lv_sub hl [0, 1, 2] rfl)
        · have hf := mm_ip hf (mm_b0 c_12)
          refine lv_aload_n hx hb dX2_readProduct_31 rfl (lv_at hl 0 rfl) ?_
          refine lv_bipush (v := 37) hx hb dX2_readProduct_32 (by decide) ?_
          obtain ⟨r_13, hc_14, hf⟩ := mm_bd1s hf
          refine mm_callVF (q0 := 0) (ci := 2) (rest := []) C0 lk_X2_40 (ctX2_meets (a := a) (d := d - 1) (by omega) hc_14) (by omega) rfl hl.1 rfl (mm_cat rfl) dX2_readProduct_34 hP hD hA hS rfl rfl (fun H locs hP hD hS => ?_)
          refine W.eq (g2 := F0 m 37 ls [.int (mm_b r_13)]) rfl ?_
          refine lv_if_eq (tgt := 71) hx hb dX2_readProduct_37 (by decide) (fun c_15 => ?_) (fun c_15 => ?_)
          · have hf := mm_ip hf (mm_b0 c_15)
            apply mm_sub4 hf
            exact mm_vret C0 hP hD hS dX2_readProduct_71
          · have hf := mm_in hf (mm_b1 c_15)
            exact tX2_readProduct_40 hgo hE hd C0 hA N ih _ _ _ _ _ _ _ _ H locs ls hf hP hD hS (lv_sub hl [0, 1, 2] rfl)

def fX2_readProduct (N : Nat) (go : Int32 → Int32 → Int32 → Int32 → Int32 → List Int32 → List Int32 → Option (Int32 × Int32 × Int32 × List Int32)) (x1 : Int32) (v_size : Int32) (v_draftCount : Int32) (v_place : Int32) (v_fault : Int32) (v_tape : List Int32) (v_draft : List Int32) : Option (Int32 × Int32 × Int32 × List Int32) :=
    mm_bd4 (go x1 v_size v_draftCount v_place v_fault v_tape v_draft) (fun (w_1 : Int32) (w_2 : Int32) (w_3 : Int32) (w_4 : List Int32) =>
    fX2_readProduct_7 N go N x1 (0 : Int32) v_size w_1 w_2 w_3 v_tape w_4)

set_option maxHeartbeats 4000000 in
set_option maxRecDepth 100000 in
theorem ctX2_readProduct {l : Launch} {D : va_G} {cI cL cS cH : ClassId} {a : Nat → Nat} {x1 : Int32} {v_size : Int32} {v_stepCount : Int32} {v_draftCount : Int32} {v_place : Int32} {v_fault : Int32} {v_stacked : Int32} {v_tape : List Int32} {v_steps : List Int32} {v_draft : List Int32} {v_stack : List Int32} {w_draftCount : Int32} {w_place : Int32} {w_fault : Int32} {w_draft : List Int32} {N d : Nat} {go : Int32 → Int32 → Int32 → Int32 → Int32 → List Int32 → List Int32 → Option (Int32 × Int32 × Int32 × List Int32)} {dgo : Nat} (hgo : ∀ (a : Nat → Nat) (x1 : Int32) (v_size : Int32) (v_stepCount : Int32) (v_draftCount : Int32) (v_place : Int32) (v_fault : Int32) (v_stacked : Int32) (v_tape : List Int32) (v_steps : List Int32) (v_draft : List Int32) (v_stack : List Int32) (w_draftCount : Int32) (w_place : Int32) (w_fault : Int32) (w_draft : List Int32), go x1 v_size v_draftCount v_place v_fault v_tape v_draft = some (w_draftCount, w_place, w_fault, w_draft) → mm_Ct l yX2_readOne cX2_readOne 3 none dgo D (mm_T cI cL cS cH) [.ref (a 0), .int x1] (wd_X2 cI cL cS cH a v_size v_stepCount v_draftCount v_place v_fault v_stacked v_tape v_steps v_draft v_stack) (wd_X2 cI cL cS cH a v_size v_stepCount w_draftCount w_place w_fault v_stacked v_tape v_steps w_draft v_stack) none) (hE : 2 ≤ dgo) (hd : dgo + 1 ≤ d) (hf : fX2_readProduct N go x1 v_size v_draftCount v_place v_fault v_tape v_draft = some (w_draftCount, w_place, w_fault, w_draft)) : mm_Ct l yX2_readProduct cX2_readProduct 4 none d D (mm_T cI cL cS cH) [.ref (a 0), .int x1] (wd_X2 cI cL cS cH a v_size v_stepCount v_draftCount v_place v_fault v_stacked v_tape v_steps v_draft v_stack) (wd_X2 cI cL cS cH a v_size v_stepCount w_draftCount w_place w_fault v_stacked v_tape v_steps w_draft v_stack) none := by
  refine mm_of (by decide) (Nat.le_of_ble_eq_true rfl) ?_
  intro p e s m args below meth c A H locs ls C0 hP hD hA hS hl
  have C0 : mm_Cx p s m args meth c RX2 cX2_readProduct 4 none D (mm_T cI cL cS cH) A := C0
  obtain ⟨hx, hb, hml, hown, hts, hr, hlocks, hK, hSt⟩ := id C0
  have hl : lv_has ls 4 [(0, .ref (a 0)), (1, .int x1)] := hl
  unfold fX2_readProduct at hf
  refine lv_aload_n hx hb dX2_readProduct_0 rfl (lv_at hl 0 rfl) ?_
  refine lv_iload_n hx hb dX2_readProduct_1 rfl (lv_at hl 1 rfl) ?_
  obtain ⟨w_1, w_2, w_3, w_4, hc_5, hf⟩ := mm_bd4s hf
  refine mm_callVF (q0 := 0) (ci := 2) (rest := []) C0 lk_X2_79 (hgo a _ _ _ _ _ _ _ _ _ _ _ _ _ _ _ hc_5) (by omega) rfl hl.1 rfl (mm_cat rfl) dX2_readProduct_2 hP hD hA hS rfl rfl (fun H locs hP hD hS => ?_)
  refine W.eq (g2 := F0 m 5 ls []) rfl ?_
  refine lv_iconst (v := 0) hx hb dX2_readProduct_5 (by decide) ?_
  refine lv_istore_n (lv' := [(2, .int (0 : Int32)), (0, .ref (a 0)), (1, .int x1)]) hx hb dX2_readProduct_6 rfl hl (by decide) rfl (fun ls hl => ?_)
  exact tX2_readProduct_7 hgo hE hd C0 hA N  N _ _ _ _ _ _ _ _ H locs ls hf hP hD hS (lv_sub hl [1, 2, 0] rfl)

theorem dX2_readSum_0 : decode cX2_readSum 0 = .ok (.aload_n 0, 1) := by decide +kernel
theorem dX2_readSum_1 : decode cX2_readSum 1 = .ok (.iload_n 1, 1) := by decide +kernel
theorem dX2_readSum_2 : decode cX2_readSum 2 = .ok (.invokevirtual 76, 3) := by decide +kernel
theorem dX2_readSum_5 : decode cX2_readSum 5 = .ok (.iconst 0, 1) := by decide +kernel
theorem dX2_readSum_6 : decode cX2_readSum 6 = .ok (.istore_n 2, 1) := by decide +kernel
theorem dX2_readSum_7 : decode cX2_readSum 7 = .ok (.iload_n 2, 1) := by decide +kernel
theorem dX2_readSum_8 : decode cX2_readSum 8 = .ok (.bipush 120, 2) := by decide +kernel
theorem dX2_readSum_10 : decode cX2_readSum 10 = .ok (.if_icmp .ge 52, 3) := by decide +kernel
theorem dX2_readSum_13 : decode cX2_readSum 13 = .ok (.aload_n 0, 1) := by decide +kernel
theorem dX2_readSum_14 : decode cX2_readSum 14 = .ok (.bipush 43, 2) := by decide +kernel
theorem dX2_readSum_16 : decode cX2_readSum 16 = .ok (.invokevirtual 40, 3) := by decide +kernel
theorem dX2_readSum_19 : decode cX2_readSum 19 = .ok (.ifCond .ne 12, 3) := by decide +kernel
theorem dX2_readSum_22 : decode cX2_readSum 22 = .ok (.aload_n 0, 1) := by decide +kernel
theorem dX2_readSum_23 : decode cX2_readSum 23 = .ok (.bipush 45, 2) := by decide +kernel
theorem dX2_readSum_25 : decode cX2_readSum 25 = .ok (.invokevirtual 40, 3) := by decide +kernel
theorem dX2_readSum_28 : decode cX2_readSum 28 = .ok (.ifCond .eq 34, 3) := by decide +kernel
theorem dX2_readSum_31 : decode cX2_readSum 31 = .ok (.aload_n 0, 1) := by decide +kernel
theorem dX2_readSum_32 : decode cX2_readSum 32 = .ok (.invokevirtual 72, 3) := by decide +kernel
theorem dX2_readSum_35 : decode cX2_readSum 35 = .ok (.istore_n 3, 1) := by decide +kernel
theorem dX2_readSum_36 : decode cX2_readSum 36 = .ok (.aload_n 0, 1) := by decide +kernel
theorem dX2_readSum_37 : decode cX2_readSum 37 = .ok (.dup, 1) := by decide +kernel
theorem dX2_readSum_38 : decode cX2_readSum 38 = .ok (.getfield 28, 3) := by decide +kernel
theorem dX2_readSum_41 : decode cX2_readSum 41 = .ok (.iconst 1, 1) := by decide +kernel
theorem dX2_readSum_42 : decode cX2_readSum 42 = .ok (.iadd, 1) := by decide +kernel
theorem dX2_readSum_43 : decode cX2_readSum 43 = .ok (.putfield 28, 3) := by decide +kernel
theorem dX2_readSum_46 : decode cX2_readSum 46 = .ok (.aload_n 0, 1) := by decide +kernel
theorem dX2_readSum_47 : decode cX2_readSum 47 = .ok (.iload_n 1, 1) := by decide +kernel
theorem dX2_readSum_48 : decode cX2_readSum 48 = .ok (.invokevirtual 76, 3) := by decide +kernel
theorem dX2_readSum_51 : decode cX2_readSum 51 = .ok (.aload_n 0, 1) := by decide +kernel
theorem dX2_readSum_52 : decode cX2_readSum 52 = .ok (.iload_n 3, 1) := by decide +kernel
theorem dX2_readSum_53 : decode cX2_readSum 53 = .ok (.invokevirtual 60, 3) := by decide +kernel
theorem dX2_readSum_56 : decode cX2_readSum 56 = .ok (.iinc 2 1, 3) := by decide +kernel
theorem dX2_readSum_59 : decode cX2_readSum 59 = .ok (.goto (-52), 3) := by decide +kernel
theorem dX2_readSum_62 : decode cX2_readSum 62 = .ok (.return_, 1) := by decide +kernel
def fX2_readSum_31 (N : Nat) (go : Int32 → Int32 → Int32 → Int32 → Int32 → List Int32 → List Int32 → Option (Int32 × Int32 × Int32 × List Int32)) (k_7 : Int32 → Int32 → Int32 → Int32 → Int32 → Int32 → List Int32 → List Int32 → Option (Int32 × Int32 × Int32 × List Int32)) (x1 : Int32) (x2 : Int32) (v_size : Int32) (v_draftCount : Int32) (v_place : Int32) (v_fault : Int32) (v_tape : List Int32) (v_draft : List Int32) : Option (Int32 × Int32 × Int32 × List Int32) :=
    mm_bd1 (fX2_next N v_size v_place v_tape) (fun (r_13 : Int32) =>
    mm_nm ((v_place + (1 : Int32))) (fun (y_15 : Int32) =>
    mm_bd4 (fX2_readProduct N go x1 v_size v_draftCount y_15 v_fault v_tape v_draft) (fun (w_16 : Int32) (w_17 : Int32) (w_18 : Int32) (w_19 : List Int32) =>
    mm_bd2 (fX2_note N r_13 w_16 w_19) (fun (w_21 : Int32) (w_22 : List Int32) =>
    mm_nm (x2 + (1 : Int32)) (fun (y_24 : Int32) =>
    k_7 x1 y_24 v_size w_21 w_17 w_18 v_tape w_22)))))

set_option maxHeartbeats 4000000 in
set_option maxRecDepth 100000 in
theorem tX2_readSum_31 {p : Program} {l : Launch} {e : Env} {s : State} {m : MethodId} {args : Array Value} {below : List Frame} {meth : Method} {c : Code} {D : va_G} {cI cL cS cH : ClassId} {A : Nat → Prop} {d : Nat} {a : Nat → Nat} {go : Int32 → Int32 → Int32 → Int32 → Int32 → List Int32 → List Int32 → Option (Int32 × Int32 × Int32 × List Int32)} {dgo : Nat} (hgo : ∀ (a : Nat → Nat) (x1 : Int32) (v_size : Int32) (v_stepCount : Int32) (v_draftCount : Int32) (v_place : Int32) (v_fault : Int32) (v_stacked : Int32) (v_tape : List Int32) (v_steps : List Int32) (v_draft : List Int32) (v_stack : List Int32) (w_draftCount : Int32) (w_place : Int32) (w_fault : Int32) (w_draft : List Int32), go x1 v_size v_draftCount v_place v_fault v_tape v_draft = some (w_draftCount, w_place, w_fault, w_draft) → mm_Ct l yX2_readOne cX2_readOne 3 none dgo D (mm_T cI cL cS cH) [.ref (a 0), .int x1] (wd_X2 cI cL cS cH a v_size v_stepCount v_draftCount v_place v_fault v_stacked v_tape v_steps v_draft v_stack) (wd_X2 cI cL cS cH a v_size v_stepCount w_draftCount w_place w_fault v_stacked v_tape v_steps w_draft v_stack) none) (hE : 2 ≤ dgo) (hd : dgo + 2 ≤ d) (C0 : mm_Cx p s m args meth c RX2 cX2_readSum 4 none D (mm_T cI cL cS cH) A) (hA : ∀ q, s.heap.size ≤ q → A q) {v_stepCount : Int32} {v_stacked : Int32} {v_steps : List Int32} {v_stack : List Int32} {w_draftCount : Int32} {w_place : Int32} {w_fault : Int32} {w_draft : List Int32} (N : Nat) {k_7 : Int32 → Int32 → Int32 → Int32 → Int32 → Int32 → List Int32 → List Int32 → Option (Int32 × Int32 × Int32 × List Int32)} (hk_7 : ∀ (x1 : Int32) (x2 : Int32) (v_size : Int32) (v_draftCount : Int32) (v_place : Int32) (v_fault : Int32) (v_tape : List Int32) (v_draft : List Int32) (H : Heap) (locs : List Loc) (ls : Array Slot), k_7 x1 x2 v_size v_draftCount v_place v_fault v_tape v_draft = some (w_draftCount, w_place, w_fault, w_draft) → va_P D mm_cl (wd_X2 cI cL cS cH a v_size v_stepCount v_draftCount v_place v_fault v_stacked v_tape v_steps v_draft v_stack) H → va_D A (wd_X2 cI cL cS cH a v_size v_stepCount v_draftCount v_place v_fault v_stacked v_tape v_steps v_draft v_stack) → va_S A s.heap H locs → lv_has ls 4 [(0, .ref (a 0)), (1, .int x1), (2, .int x2)] → W p l e (mm_rr d) s m args below meth c H locs 0 0 (mm_Z below D A (wd_X2 cI cL cS cH a v_size v_stepCount w_draftCount w_place w_fault v_stacked v_tape v_steps w_draft v_stack) none args s) (F0 m 7 ls [])) : ∀ (x1 : Int32) (x2 : Int32) (v_size : Int32) (v_draftCount : Int32) (v_place : Int32) (v_fault : Int32) (v_tape : List Int32) (v_draft : List Int32) (H : Heap) (locs : List Loc) (ls : Array Slot), fX2_readSum_31 N go k_7 x1 x2 v_size v_draftCount v_place v_fault v_tape v_draft = some (w_draftCount, w_place, w_fault, w_draft) → va_P D mm_cl (wd_X2 cI cL cS cH a v_size v_stepCount v_draftCount v_place v_fault v_stacked v_tape v_steps v_draft v_stack) H → va_D A (wd_X2 cI cL cS cH a v_size v_stepCount v_draftCount v_place v_fault v_stacked v_tape v_steps v_draft v_stack) → va_S A s.heap H locs → lv_has ls 4 [(0, .ref (a 0)), (1, .int x1), (2, .int x2)] → W p l e (mm_rr d) s m args below meth c H locs 0 0 (mm_Z below D A (wd_X2 cI cL cS cH a v_size v_stepCount w_draftCount w_place w_fault v_stacked v_tape v_steps w_draft v_stack) none args s) (F0 m 31 ls []) := by
  obtain ⟨hx, hb, hml, hown, hts, hr, hlocks, hK, hSt⟩ := id C0
  intro x1 x2 v_size v_draftCount v_place v_fault v_tape v_draft H locs ls hf hP hD hS hl
  unfold fX2_readSum_31 at hf
  refine lv_aload_n hx hb dX2_readSum_31 rfl (lv_at hl 0 rfl) ?_
  obtain ⟨r_13, hc_14, hf⟩ := mm_bd1s hf
  refine mm_callVF (q0 := 0) (ci := 2) (rest := []) C0 lk_X2_72 (ctX2_next (a := a) (d := d - 1) (by omega) hc_14) (by omega) rfl hl.1 rfl (mm_cat rfl) dX2_readSum_32 hP hD hA hS rfl rfl (fun H locs hP hD hS => ?_)
  refine W.eq (g2 := F0 m 35 ls [.int r_13]) rfl ?_
  refine lv_istore_n (lv' := [(3, .int r_13), (0, .ref (a 0)), (1, .int x1), (2, .int x2)]) hx hb dX2_readSum_35 rfl hl (by decide) rfl (fun ls hl => ?_)
  refine lv_aload_n hx hb dX2_readSum_36 rfl (lv_at hl 1 rfl) ?_
  refine lv_dup hx hb dX2_readSum_37 rfl ?_
  refine mm_get C0 hP iw_X2 0 rfl rfl 6 (by decide) fl_X2_28 rfl dX2_readSum_38 ?_
  refine lv_iconst (v := 1) hx hb dX2_readSum_41 (by decide) ?_
  refine lv_iadd hx hb dX2_readSum_42 ?_
  refine lv_topi (fun y_15 ey_15 => ?_)
  have hf := mm_nms hf ey_15
  refine mm_put C0 hP hD hS iw_X2 tyX2 tyX2_ok nmX2 0 rfl rfl 6 (by decide) fl_X2_28 rfl rfl rfl (Nat.le_of_ble_eq_true rfl) dX2_readSum_43 (w2 := (wd_X2 cI cL cS cH a v_size v_stepCount v_draftCount y_15 v_fault v_stacked v_tape v_steps v_draft v_stack)) rfl (fun H locs hP hD hS => ?_)
  refine lv_aload_n hx hb dX2_readSum_46 rfl (lv_at hl 1 rfl) ?_
  refine lv_iload_n hx hb dX2_readSum_47 rfl (lv_at hl 2 rfl) ?_
  obtain ⟨w_16, w_17, w_18, w_19, hc_20, hf⟩ := mm_bd4s hf
  refine mm_callVF (q0 := 0) (ci := 2) (rest := []) C0 lk_X2_76 (ctX2_readProduct (a := a) (d := d - 1) hgo hE (by omega) hc_20) (by omega) rfl hl.1 rfl (mm_cat rfl) dX2_readSum_48 hP hD hA hS rfl rfl (fun H locs hP hD hS => ?_)
  refine W.eq (g2 := F0 m 51 ls []) rfl ?_
  refine lv_aload_n hx hb dX2_readSum_51 rfl (lv_at hl 1 rfl) ?_
  refine lv_iload_n hx hb dX2_readSum_52 rfl (lv_at hl 0 rfl) ?_
  obtain ⟨w_21, w_22, hc_23, hf⟩ := mm_bd2s hf
  refine mm_callVF (q0 := 0) (ci := 2) (rest := []) C0 lk_X2_60 (ctX2_note (a := a) (d := d - 1) (by omega) hc_23) (by omega) rfl hl.1 rfl (mm_cat rfl) dX2_readSum_53 hP hD hA hS rfl rfl (fun H locs hP hD hS => ?_)
  refine W.eq (g2 := F0 m 56 ls []) rfl ?_
  obtain ⟨y_24, ey_24⟩ : ∃ z : Int32, z = x2 + (1 : Int32) := ⟨_, rfl⟩
  have hf := mm_nms hf ey_24
  refine lv_iinc (v := y_24) (lv' := [(2, .int y_24), (3, .int r_13), (0, .ref (a 0)), (1, .int x1)]) hx hb dX2_readSum_56 hl (k := 3) rfl (by rw [ey_24]; rfl) (by decide) rfl (fun ls hl => ?_)
  refine lv_goto (tgt := 7) hx hb dX2_readSum_59 (by decide) ?_
  exact hk_7 _ _ _ _ _ _ _ _ H locs ls hf hP hD hS (lv_sub hl [2, 3, 0] rfl)

def fX2_readSum_7 (N : Nat) (go : Int32 → Int32 → Int32 → Int32 → Int32 → List Int32 → List Int32 → Option (Int32 × Int32 × Int32 × List Int32))  : Nat → Int32 → Int32 → Int32 → Int32 → Int32 → Int32 → List Int32 → List Int32 → Option (Int32 × Int32 × Int32 × List Int32)
  | 0 => fun _ _ _ _ _ _ _ _ => none
  | n + 1 => fun x1 x2 v_size v_draftCount v_place v_fault v_tape v_draft =>
    if (120 : Int32) ≤ x2 then
    (some (v_draftCount, v_place, v_fault, v_draft))
    else (mm_bd1 (fX2_meets N (43 : Int32) v_size v_place v_fault v_tape) (fun (r_7 : Bool) =>
    if r_7 = false then
    (mm_bd1 (fX2_meets N (45 : Int32) v_size v_place v_fault v_tape) (fun (r_10 : Bool) =>
    if r_10 = false then
    (some (v_draftCount, v_place, v_fault, v_draft))
    else (fX2_readSum_31 N go (fX2_readSum_7 N go n) x1 x2 v_size v_draftCount v_place v_fault v_tape v_draft)))
    else (fX2_readSum_31 N go (fX2_readSum_7 N go n) x1 x2 v_size v_draftCount v_place v_fault v_tape v_draft)))

set_option maxHeartbeats 4000000 in
set_option maxRecDepth 100000 in
theorem tX2_readSum_7 {p : Program} {l : Launch} {e : Env} {s : State} {m : MethodId} {args : Array Value} {below : List Frame} {meth : Method} {c : Code} {D : va_G} {cI cL cS cH : ClassId} {A : Nat → Prop} {d : Nat} {a : Nat → Nat} {go : Int32 → Int32 → Int32 → Int32 → Int32 → List Int32 → List Int32 → Option (Int32 × Int32 × Int32 × List Int32)} {dgo : Nat} (hgo : ∀ (a : Nat → Nat) (x1 : Int32) (v_size : Int32) (v_stepCount : Int32) (v_draftCount : Int32) (v_place : Int32) (v_fault : Int32) (v_stacked : Int32) (v_tape : List Int32) (v_steps : List Int32) (v_draft : List Int32) (v_stack : List Int32) (w_draftCount : Int32) (w_place : Int32) (w_fault : Int32) (w_draft : List Int32), go x1 v_size v_draftCount v_place v_fault v_tape v_draft = some (w_draftCount, w_place, w_fault, w_draft) → mm_Ct l yX2_readOne cX2_readOne 3 none dgo D (mm_T cI cL cS cH) [.ref (a 0), .int x1] (wd_X2 cI cL cS cH a v_size v_stepCount v_draftCount v_place v_fault v_stacked v_tape v_steps v_draft v_stack) (wd_X2 cI cL cS cH a v_size v_stepCount w_draftCount w_place w_fault v_stacked v_tape v_steps w_draft v_stack) none) (hE : 2 ≤ dgo) (hd : dgo + 2 ≤ d) (C0 : mm_Cx p s m args meth c RX2 cX2_readSum 4 none D (mm_T cI cL cS cH) A) (hA : ∀ q, s.heap.size ≤ q → A q) {v_stepCount : Int32} {v_stacked : Int32} {v_steps : List Int32} {v_stack : List Int32} {w_draftCount : Int32} {w_place : Int32} {w_fault : Int32} {w_draft : List Int32} (N : Nat)  : ∀ (n : Nat), ∀ (x1 : Int32) (x2 : Int32) (v_size : Int32) (v_draftCount : Int32) (v_place : Int32) (v_fault : Int32) (v_tape : List Int32) (v_draft : List Int32) (H : Heap) (locs : List Loc) (ls : Array Slot), fX2_readSum_7 N go n x1 x2 v_size v_draftCount v_place v_fault v_tape v_draft = some (w_draftCount, w_place, w_fault, w_draft) → va_P D mm_cl (wd_X2 cI cL cS cH a v_size v_stepCount v_draftCount v_place v_fault v_stacked v_tape v_steps v_draft v_stack) H → va_D A (wd_X2 cI cL cS cH a v_size v_stepCount v_draftCount v_place v_fault v_stacked v_tape v_steps v_draft v_stack) → va_S A s.heap H locs → lv_has ls 4 [(0, .ref (a 0)), (1, .int x1), (2, .int x2)] → W p l e (mm_rr d) s m args below meth c H locs 0 0 (mm_Z below D A (wd_X2 cI cL cS cH a v_size v_stepCount w_draftCount w_place w_fault v_stacked v_tape v_steps w_draft v_stack) none args s) (F0 m 7 ls []) := by
  obtain ⟨hx, hb, hml, hown, hts, hr, hlocks, hK, hSt⟩ := id C0
  intro n
  induction n with
  | zero =>
    intro x1 x2 v_size v_draftCount v_place v_fault v_tape v_draft H locs ls hf
    cases (show none = some _ from hf)
  | succ n ih =>
    intro x1 x2 v_size v_draftCount v_place v_fault v_tape v_draft H locs ls hf hP hD hS hl
    unfold fX2_readSum_7 at hf
    refine lv_iload_n hx hb dX2_readSum_7 rfl (lv_at hl 2 rfl) ?_
    refine lv_bipush (v := 120) hx hb dX2_readSum_8 (by decide) ?_
    refine lv_icmp_ge (tgt := 62) hx hb dX2_readSum_10 (by decide) (fun c_6 => ?_) (fun c_6 => ?_)
    · have hf := mm_ip hf c_6
      apply mm_sub4 hf
      exact mm_vret C0 hP hD hS dX2_readSum_62
    · have hf := mm_in hf c_6
      refine lv_aload_n hx hb dX2_readSum_13 rfl (lv_at hl 0 rfl) ?_
      refine lv_bipush (v := 43) hx hb dX2_readSum_14 (by decide) ?_
      obtain ⟨r_7, hc_8, hf⟩ := mm_bd1s hf
      refine mm_callVF (q0 := 0) (ci := 2) (rest := []) C0 lk_X2_40 (ctX2_meets (a := a) (d := d - 1) (by omega) hc_8) (by omega) rfl hl.1 rfl (mm_cat rfl) dX2_readSum_16 hP hD hA hS rfl rfl (fun H locs hP hD hS => ?_)
      refine W.eq (g2 := F0 m 19 ls [.int (mm_b r_7)]) rfl ?_
      refine lv_if_ne (tgt := 31) hx hb dX2_readSum_19 (by decide) (fun c_9 => ?_) (fun c_9 => ?_)
      · have hf := mm_in hf (mm_b1 c_9)
        exact tX2_readSum_31 hgo hE hd C0 hA N ih _ _ _ _ _ _ _ _ H locs ls hf hP hD hS (lv_sub hl [0, 1, 2] rfl)
      · have hf := mm_ip hf (mm_b0 c_9)
        refine lv_aload_n hx hb dX2_readSum_22 rfl (lv_at hl 0 rfl) ?_
        refine lv_bipush (v := 45) hx hb dX2_readSum_23 (by decide) ?_
        obtain ⟨r_10, hc_11, hf⟩ := mm_bd1s hf
        refine mm_callVF (q0 := 0) (ci := 2) (rest := []) C0 lk_X2_40 (ctX2_meets (a := a) (d := d - 1) (by omega) hc_11) (by omega) rfl hl.1 rfl (mm_cat rfl) dX2_readSum_25 hP hD hA hS rfl rfl (fun H locs hP hD hS => ?_)
        refine W.eq (g2 := F0 m 28 ls [.int (mm_b r_10)]) rfl ?_
        refine lv_if_eq (tgt := 62) hx hb dX2_readSum_28 (by decide) (fun c_12 => ?_) (fun c_12 => ?_)
        · have hf := mm_ip hf (mm_b0 c_12)
          apply mm_sub4 hf
          exact mm_vret C0 hP hD hS dX2_readSum_62
        · have hf := mm_in hf (mm_b1 c_12)
          exact tX2_readSum_31 hgo hE hd C0 hA N ih _ _ _ _ _ _ _ _ H locs ls hf hP hD hS (lv_sub hl [0, 1, 2] rfl)

def fX2_readSum (N : Nat) (go : Int32 → Int32 → Int32 → Int32 → Int32 → List Int32 → List Int32 → Option (Int32 × Int32 × Int32 × List Int32)) (x1 : Int32) (v_size : Int32) (v_draftCount : Int32) (v_place : Int32) (v_fault : Int32) (v_tape : List Int32) (v_draft : List Int32) : Option (Int32 × Int32 × Int32 × List Int32) :=
    mm_bd4 (fX2_readProduct N go x1 v_size v_draftCount v_place v_fault v_tape v_draft) (fun (w_1 : Int32) (w_2 : Int32) (w_3 : Int32) (w_4 : List Int32) =>
    fX2_readSum_7 N go N x1 (0 : Int32) v_size w_1 w_2 w_3 v_tape w_4)

set_option maxHeartbeats 4000000 in
set_option maxRecDepth 100000 in
theorem ctX2_readSum {l : Launch} {D : va_G} {cI cL cS cH : ClassId} {a : Nat → Nat} {x1 : Int32} {v_size : Int32} {v_stepCount : Int32} {v_draftCount : Int32} {v_place : Int32} {v_fault : Int32} {v_stacked : Int32} {v_tape : List Int32} {v_steps : List Int32} {v_draft : List Int32} {v_stack : List Int32} {w_draftCount : Int32} {w_place : Int32} {w_fault : Int32} {w_draft : List Int32} {N d : Nat} {go : Int32 → Int32 → Int32 → Int32 → Int32 → List Int32 → List Int32 → Option (Int32 × Int32 × Int32 × List Int32)} {dgo : Nat} (hgo : ∀ (a : Nat → Nat) (x1 : Int32) (v_size : Int32) (v_stepCount : Int32) (v_draftCount : Int32) (v_place : Int32) (v_fault : Int32) (v_stacked : Int32) (v_tape : List Int32) (v_steps : List Int32) (v_draft : List Int32) (v_stack : List Int32) (w_draftCount : Int32) (w_place : Int32) (w_fault : Int32) (w_draft : List Int32), go x1 v_size v_draftCount v_place v_fault v_tape v_draft = some (w_draftCount, w_place, w_fault, w_draft) → mm_Ct l yX2_readOne cX2_readOne 3 none dgo D (mm_T cI cL cS cH) [.ref (a 0), .int x1] (wd_X2 cI cL cS cH a v_size v_stepCount v_draftCount v_place v_fault v_stacked v_tape v_steps v_draft v_stack) (wd_X2 cI cL cS cH a v_size v_stepCount w_draftCount w_place w_fault v_stacked v_tape v_steps w_draft v_stack) none) (hE : 2 ≤ dgo) (hd : dgo + 2 ≤ d) (hf : fX2_readSum N go x1 v_size v_draftCount v_place v_fault v_tape v_draft = some (w_draftCount, w_place, w_fault, w_draft)) : mm_Ct l yX2_readSum cX2_readSum 4 none d D (mm_T cI cL cS cH) [.ref (a 0), .int x1] (wd_X2 cI cL cS cH a v_size v_stepCount v_draftCount v_place v_fault v_stacked v_tape v_steps v_draft v_stack) (wd_X2 cI cL cS cH a v_size v_stepCount w_draftCount w_place w_fault v_stacked v_tape v_steps w_draft v_stack) none := by
  refine mm_of (by decide) (Nat.le_of_ble_eq_true rfl) ?_
  intro p e s m args below meth c A H locs ls C0 hP hD hA hS hl
  have C0 : mm_Cx p s m args meth c RX2 cX2_readSum 4 none D (mm_T cI cL cS cH) A := C0
  obtain ⟨hx, hb, hml, hown, hts, hr, hlocks, hK, hSt⟩ := id C0
  have hl : lv_has ls 4 [(0, .ref (a 0)), (1, .int x1)] := hl
  unfold fX2_readSum at hf
  refine lv_aload_n hx hb dX2_readSum_0 rfl (lv_at hl 0 rfl) ?_
  refine lv_iload_n hx hb dX2_readSum_1 rfl (lv_at hl 1 rfl) ?_
  obtain ⟨w_1, w_2, w_3, w_4, hc_5, hf⟩ := mm_bd4s hf
  refine mm_callVF (q0 := 0) (ci := 2) (rest := []) C0 lk_X2_76 (ctX2_readProduct (a := a) (d := d - 1) hgo hE (by omega) hc_5) (by omega) rfl hl.1 rfl (mm_cat rfl) dX2_readSum_2 hP hD hA hS rfl rfl (fun H locs hP hD hS => ?_)
  refine W.eq (g2 := F0 m 5 ls []) rfl ?_
  refine lv_iconst (v := 0) hx hb dX2_readSum_5 (by decide) ?_
  refine lv_istore_n (lv' := [(2, .int (0 : Int32)), (0, .ref (a 0)), (1, .int x1)]) hx hb dX2_readSum_6 rfl hl (by decide) rfl (fun ls hl => ?_)
  exact tX2_readSum_7 hgo hE hd C0 hA N  N _ _ _ _ _ _ _ _ H locs ls hf hP hD hS (lv_sub hl [1, 2, 0] rfl)

theorem dX2_readCompared_0 : decode cX2_readCompared 0 = .ok (.aload_n 0, 1) := by decide +kernel
theorem dX2_readCompared_1 : decode cX2_readCompared 1 = .ok (.iload_n 1, 1) := by decide +kernel
theorem dX2_readCompared_2 : decode cX2_readCompared 2 = .ok (.invokevirtual 69, 3) := by decide +kernel
theorem dX2_readCompared_5 : decode cX2_readCompared 5 = .ok (.aload_n 0, 1) := by decide +kernel
theorem dX2_readCompared_6 : decode cX2_readCompared 6 = .ok (.bipush 60, 2) := by decide +kernel
theorem dX2_readCompared_8 : decode cX2_readCompared 8 = .ok (.invokevirtual 40, 3) := by decide +kernel
theorem dX2_readCompared_11 : decode cX2_readCompared 11 = .ok (.ifCond .ne 21, 3) := by decide +kernel
theorem dX2_readCompared_14 : decode cX2_readCompared 14 = .ok (.aload_n 0, 1) := by decide +kernel
theorem dX2_readCompared_15 : decode cX2_readCompared 15 = .ok (.bipush 61, 2) := by decide +kernel
theorem dX2_readCompared_17 : decode cX2_readCompared 17 = .ok (.invokevirtual 40, 3) := by decide +kernel
theorem dX2_readCompared_20 : decode cX2_readCompared 20 = .ok (.ifCond .ne 12, 3) := by decide +kernel
theorem dX2_readCompared_23 : decode cX2_readCompared 23 = .ok (.aload_n 0, 1) := by decide +kernel
theorem dX2_readCompared_24 : decode cX2_readCompared 24 = .ok (.bipush 62, 2) := by decide +kernel
theorem dX2_readCompared_26 : decode cX2_readCompared 26 = .ok (.invokevirtual 40, 3) := by decide +kernel
theorem dX2_readCompared_29 : decode cX2_readCompared 29 = .ok (.ifCond .eq 28, 3) := by decide +kernel
theorem dX2_readCompared_32 : decode cX2_readCompared 32 = .ok (.aload_n 0, 1) := by decide +kernel
theorem dX2_readCompared_33 : decode cX2_readCompared 33 = .ok (.invokevirtual 72, 3) := by decide +kernel
theorem dX2_readCompared_36 : decode cX2_readCompared 36 = .ok (.istore_n 2, 1) := by decide +kernel
theorem dX2_readCompared_37 : decode cX2_readCompared 37 = .ok (.aload_n 0, 1) := by decide +kernel
theorem dX2_readCompared_38 : decode cX2_readCompared 38 = .ok (.dup, 1) := by decide +kernel
theorem dX2_readCompared_39 : decode cX2_readCompared 39 = .ok (.getfield 28, 3) := by decide +kernel
theorem dX2_readCompared_42 : decode cX2_readCompared 42 = .ok (.iconst 1, 1) := by decide +kernel
theorem dX2_readCompared_43 : decode cX2_readCompared 43 = .ok (.iadd, 1) := by decide +kernel
theorem dX2_readCompared_44 : decode cX2_readCompared 44 = .ok (.putfield 28, 3) := by decide +kernel
theorem dX2_readCompared_47 : decode cX2_readCompared 47 = .ok (.aload_n 0, 1) := by decide +kernel
theorem dX2_readCompared_48 : decode cX2_readCompared 48 = .ok (.iload_n 1, 1) := by decide +kernel
theorem dX2_readCompared_49 : decode cX2_readCompared 49 = .ok (.invokevirtual 69, 3) := by decide +kernel
theorem dX2_readCompared_52 : decode cX2_readCompared 52 = .ok (.aload_n 0, 1) := by decide +kernel
theorem dX2_readCompared_53 : decode cX2_readCompared 53 = .ok (.iload_n 2, 1) := by decide +kernel
theorem dX2_readCompared_54 : decode cX2_readCompared 54 = .ok (.invokevirtual 60, 3) := by decide +kernel
theorem dX2_readCompared_57 : decode cX2_readCompared 57 = .ok (.return_, 1) := by decide +kernel
def fX2_readCompared_32 (N : Nat) (go : Int32 → Int32 → Int32 → Int32 → Int32 → List Int32 → List Int32 → Option (Int32 × Int32 × Int32 × List Int32))  (x1 : Int32) (v_size : Int32) (v_draftCount : Int32) (v_place : Int32) (v_fault : Int32) (v_tape : List Int32) (v_draft : List Int32) : Option (Int32 × Int32 × Int32 × List Int32) :=
    mm_bd1 (fX2_next N v_size v_place v_tape) (fun (r_15 : Int32) =>
    mm_nm ((v_place + (1 : Int32))) (fun (y_17 : Int32) =>
    mm_bd4 (fX2_readSum N go x1 v_size v_draftCount y_17 v_fault v_tape v_draft) (fun (w_18 : Int32) (w_19 : Int32) (w_20 : Int32) (w_21 : List Int32) =>
    mm_bd2 (fX2_note N r_15 w_18 w_21) (fun (w_23 : Int32) (w_24 : List Int32) =>
    some (w_23, w_19, w_20, w_24)))))

set_option maxHeartbeats 4000000 in
set_option maxRecDepth 100000 in
theorem tX2_readCompared_32 {p : Program} {l : Launch} {e : Env} {s : State} {m : MethodId} {args : Array Value} {below : List Frame} {meth : Method} {c : Code} {D : va_G} {cI cL cS cH : ClassId} {A : Nat → Prop} {d : Nat} {a : Nat → Nat} {go : Int32 → Int32 → Int32 → Int32 → Int32 → List Int32 → List Int32 → Option (Int32 × Int32 × Int32 × List Int32)} {dgo : Nat} (hgo : ∀ (a : Nat → Nat) (x1 : Int32) (v_size : Int32) (v_stepCount : Int32) (v_draftCount : Int32) (v_place : Int32) (v_fault : Int32) (v_stacked : Int32) (v_tape : List Int32) (v_steps : List Int32) (v_draft : List Int32) (v_stack : List Int32) (w_draftCount : Int32) (w_place : Int32) (w_fault : Int32) (w_draft : List Int32), go x1 v_size v_draftCount v_place v_fault v_tape v_draft = some (w_draftCount, w_place, w_fault, w_draft) → mm_Ct l yX2_readOne cX2_readOne 3 none dgo D (mm_T cI cL cS cH) [.ref (a 0), .int x1] (wd_X2 cI cL cS cH a v_size v_stepCount v_draftCount v_place v_fault v_stacked v_tape v_steps v_draft v_stack) (wd_X2 cI cL cS cH a v_size v_stepCount w_draftCount w_place w_fault v_stacked v_tape v_steps w_draft v_stack) none) (hE : 2 ≤ dgo) (hd : dgo + 3 ≤ d) (C0 : mm_Cx p s m args meth c RX2 cX2_readCompared 3 none D (mm_T cI cL cS cH) A) (hA : ∀ q, s.heap.size ≤ q → A q) {v_stepCount : Int32} {v_stacked : Int32} {v_steps : List Int32} {v_stack : List Int32} {w_draftCount : Int32} {w_place : Int32} {w_fault : Int32} {w_draft : List Int32} (N : Nat)  : ∀ (x1 : Int32) (v_size : Int32) (v_draftCount : Int32) (v_place : Int32) (v_fault : Int32) (v_tape : List Int32) (v_draft : List Int32) (H : Heap) (locs : List Loc) (ls : Array Slot), fX2_readCompared_32 N go x1 v_size v_draftCount v_place v_fault v_tape v_draft = some (w_draftCount, w_place, w_fault, w_draft) → va_P D mm_cl (wd_X2 cI cL cS cH a v_size v_stepCount v_draftCount v_place v_fault v_stacked v_tape v_steps v_draft v_stack) H → va_D A (wd_X2 cI cL cS cH a v_size v_stepCount v_draftCount v_place v_fault v_stacked v_tape v_steps v_draft v_stack) → va_S A s.heap H locs → lv_has ls 3 [(0, .ref (a 0)), (1, .int x1)] → W p l e (mm_rr d) s m args below meth c H locs 0 0 (mm_Z below D A (wd_X2 cI cL cS cH a v_size v_stepCount w_draftCount w_place w_fault v_stacked v_tape v_steps w_draft v_stack) none args s) (F0 m 32 ls []) := by
  obtain ⟨hx, hb, hml, hown, hts, hr, hlocks, hK, hSt⟩ := id C0
  intro x1 v_size v_draftCount v_place v_fault v_tape v_draft H locs ls hf hP hD hS hl
  unfold fX2_readCompared_32 at hf
  refine lv_aload_n hx hb dX2_readCompared_32 rfl (lv_at hl 0 rfl) ?_
  obtain ⟨r_15, hc_16, hf⟩ := mm_bd1s hf
  refine mm_callVF (q0 := 0) (ci := 2) (rest := []) C0 lk_X2_72 (ctX2_next (a := a) (d := d - 1) (by omega) hc_16) (by omega) rfl hl.1 rfl (mm_cat rfl) dX2_readCompared_33 hP hD hA hS rfl rfl (fun H locs hP hD hS => ?_)
  refine W.eq (g2 := F0 m 36 ls [.int r_15]) rfl ?_
  refine lv_istore_n (lv' := [(2, .int r_15), (0, .ref (a 0)), (1, .int x1)]) hx hb dX2_readCompared_36 rfl hl (by decide) rfl (fun ls hl => ?_)
  refine lv_aload_n hx hb dX2_readCompared_37 rfl (lv_at hl 1 rfl) ?_
  refine lv_dup hx hb dX2_readCompared_38 rfl ?_
  refine mm_get C0 hP iw_X2 0 rfl rfl 6 (by decide) fl_X2_28 rfl dX2_readCompared_39 ?_
  refine lv_iconst (v := 1) hx hb dX2_readCompared_42 (by decide) ?_
  refine lv_iadd hx hb dX2_readCompared_43 ?_
  refine lv_topi (fun y_17 ey_17 => ?_)
  have hf := mm_nms hf ey_17
  refine mm_put C0 hP hD hS iw_X2 tyX2 tyX2_ok nmX2 0 rfl rfl 6 (by decide) fl_X2_28 rfl rfl rfl (Nat.le_of_ble_eq_true rfl) dX2_readCompared_44 (w2 := (wd_X2 cI cL cS cH a v_size v_stepCount v_draftCount y_17 v_fault v_stacked v_tape v_steps v_draft v_stack)) rfl (fun H locs hP hD hS => ?_)
  refine lv_aload_n hx hb dX2_readCompared_47 rfl (lv_at hl 1 rfl) ?_
  refine lv_iload_n hx hb dX2_readCompared_48 rfl (lv_at hl 2 rfl) ?_
  obtain ⟨w_18, w_19, w_20, w_21, hc_22, hf⟩ := mm_bd4s hf
  refine mm_callVF (q0 := 0) (ci := 2) (rest := []) C0 lk_X2_69 (ctX2_readSum (a := a) (d := d - 1) hgo hE (by omega) hc_22) (by omega) rfl hl.1 rfl (mm_cat rfl) dX2_readCompared_49 hP hD hA hS rfl rfl (fun H locs hP hD hS => ?_)
  refine W.eq (g2 := F0 m 52 ls []) rfl ?_
  refine lv_aload_n hx hb dX2_readCompared_52 rfl (lv_at hl 1 rfl) ?_
  refine lv_iload_n hx hb dX2_readCompared_53 rfl (lv_at hl 0 rfl) ?_
  obtain ⟨w_23, w_24, hc_25, hf⟩ := mm_bd2s hf
  refine mm_callVF (q0 := 0) (ci := 2) (rest := []) C0 lk_X2_60 (ctX2_note (a := a) (d := d - 1) (by omega) hc_25) (by omega) rfl hl.1 rfl (mm_cat rfl) dX2_readCompared_54 hP hD hA hS rfl rfl (fun H locs hP hD hS => ?_)
  refine W.eq (g2 := F0 m 57 ls []) rfl ?_
  apply mm_sub4 hf
  exact mm_vret C0 hP hD hS dX2_readCompared_57

def fX2_readCompared (N : Nat) (go : Int32 → Int32 → Int32 → Int32 → Int32 → List Int32 → List Int32 → Option (Int32 × Int32 × Int32 × List Int32)) (x1 : Int32) (v_size : Int32) (v_draftCount : Int32) (v_place : Int32) (v_fault : Int32) (v_tape : List Int32) (v_draft : List Int32) : Option (Int32 × Int32 × Int32 × List Int32) :=
    mm_bd4 (fX2_readSum N go x1 v_size v_draftCount v_place v_fault v_tape v_draft) (fun (w_1 : Int32) (w_2 : Int32) (w_3 : Int32) (w_4 : List Int32) =>
    mm_bd1 (fX2_meets N (60 : Int32) v_size w_2 w_3 v_tape) (fun (r_6 : Bool) =>
    if r_6 = false then
    (mm_bd1 (fX2_meets N (61 : Int32) v_size w_2 w_3 v_tape) (fun (r_9 : Bool) =>
    if r_9 = false then
    (mm_bd1 (fX2_meets N (62 : Int32) v_size w_2 w_3 v_tape) (fun (r_12 : Bool) =>
    if r_12 = false then
    (some (w_1, w_2, w_3, w_4))
    else (fX2_readCompared_32 N go x1 v_size w_1 w_2 w_3 v_tape w_4)))
    else (fX2_readCompared_32 N go x1 v_size w_1 w_2 w_3 v_tape w_4)))
    else (fX2_readCompared_32 N go x1 v_size w_1 w_2 w_3 v_tape w_4)))

set_option maxHeartbeats 4000000 in
set_option maxRecDepth 100000 in
theorem ctX2_readCompared {l : Launch} {D : va_G} {cI cL cS cH : ClassId} {a : Nat → Nat} {x1 : Int32} {v_size : Int32} {v_stepCount : Int32} {v_draftCount : Int32} {v_place : Int32} {v_fault : Int32} {v_stacked : Int32} {v_tape : List Int32} {v_steps : List Int32} {v_draft : List Int32} {v_stack : List Int32} {w_draftCount : Int32} {w_place : Int32} {w_fault : Int32} {w_draft : List Int32} {N d : Nat} {go : Int32 → Int32 → Int32 → Int32 → Int32 → List Int32 → List Int32 → Option (Int32 × Int32 × Int32 × List Int32)} {dgo : Nat} (hgo : ∀ (a : Nat → Nat) (x1 : Int32) (v_size : Int32) (v_stepCount : Int32) (v_draftCount : Int32) (v_place : Int32) (v_fault : Int32) (v_stacked : Int32) (v_tape : List Int32) (v_steps : List Int32) (v_draft : List Int32) (v_stack : List Int32) (w_draftCount : Int32) (w_place : Int32) (w_fault : Int32) (w_draft : List Int32), go x1 v_size v_draftCount v_place v_fault v_tape v_draft = some (w_draftCount, w_place, w_fault, w_draft) → mm_Ct l yX2_readOne cX2_readOne 3 none dgo D (mm_T cI cL cS cH) [.ref (a 0), .int x1] (wd_X2 cI cL cS cH a v_size v_stepCount v_draftCount v_place v_fault v_stacked v_tape v_steps v_draft v_stack) (wd_X2 cI cL cS cH a v_size v_stepCount w_draftCount w_place w_fault v_stacked v_tape v_steps w_draft v_stack) none) (hE : 2 ≤ dgo) (hd : dgo + 3 ≤ d) (hf : fX2_readCompared N go x1 v_size v_draftCount v_place v_fault v_tape v_draft = some (w_draftCount, w_place, w_fault, w_draft)) : mm_Ct l yX2_readCompared cX2_readCompared 3 none d D (mm_T cI cL cS cH) [.ref (a 0), .int x1] (wd_X2 cI cL cS cH a v_size v_stepCount v_draftCount v_place v_fault v_stacked v_tape v_steps v_draft v_stack) (wd_X2 cI cL cS cH a v_size v_stepCount w_draftCount w_place w_fault v_stacked v_tape v_steps w_draft v_stack) none := by
  refine mm_of (by decide) (Nat.le_of_ble_eq_true rfl) ?_
  intro p e s m args below meth c A H locs ls C0 hP hD hA hS hl
  have C0 : mm_Cx p s m args meth c RX2 cX2_readCompared 3 none D (mm_T cI cL cS cH) A := C0
  obtain ⟨hx, hb, hml, hown, hts, hr, hlocks, hK, hSt⟩ := id C0
  have hl : lv_has ls 3 [(0, .ref (a 0)), (1, .int x1)] := hl
  unfold fX2_readCompared at hf
  refine lv_aload_n hx hb dX2_readCompared_0 rfl (lv_at hl 0 rfl) ?_
  refine lv_iload_n hx hb dX2_readCompared_1 rfl (lv_at hl 1 rfl) ?_
  obtain ⟨w_1, w_2, w_3, w_4, hc_5, hf⟩ := mm_bd4s hf
  refine mm_callVF (q0 := 0) (ci := 2) (rest := []) C0 lk_X2_69 (ctX2_readSum (a := a) (d := d - 1) hgo hE (by omega) hc_5) (by omega) rfl hl.1 rfl (mm_cat rfl) dX2_readCompared_2 hP hD hA hS rfl rfl (fun H locs hP hD hS => ?_)
  refine W.eq (g2 := F0 m 5 ls []) rfl ?_
  refine lv_aload_n hx hb dX2_readCompared_5 rfl (lv_at hl 0 rfl) ?_
  refine lv_bipush (v := 60) hx hb dX2_readCompared_6 (by decide) ?_
  obtain ⟨r_6, hc_7, hf⟩ := mm_bd1s hf
  refine mm_callVF (q0 := 0) (ci := 2) (rest := []) C0 lk_X2_40 (ctX2_meets (a := a) (d := d - 1) (by omega) hc_7) (by omega) rfl hl.1 rfl (mm_cat rfl) dX2_readCompared_8 hP hD hA hS rfl rfl (fun H locs hP hD hS => ?_)
  refine W.eq (g2 := F0 m 11 ls [.int (mm_b r_6)]) rfl ?_
  refine lv_if_ne (tgt := 32) hx hb dX2_readCompared_11 (by decide) (fun c_8 => ?_) (fun c_8 => ?_)
  · have hf := mm_in hf (mm_b1 c_8)
    exact tX2_readCompared_32 hgo hE hd C0 hA N  _ _ _ _ _ _ _ H locs ls hf hP hD hS (lv_sub hl [0, 1] rfl)
  · have hf := mm_ip hf (mm_b0 c_8)
    refine lv_aload_n hx hb dX2_readCompared_14 rfl (lv_at hl 0 rfl) ?_
    refine lv_bipush (v := 61) hx hb dX2_readCompared_15 (by decide) ?_
    obtain ⟨r_9, hc_10, hf⟩ := mm_bd1s hf
    refine mm_callVF (q0 := 0) (ci := 2) (rest := []) C0 lk_X2_40 (ctX2_meets (a := a) (d := d - 1) (by omega) hc_10) (by omega) rfl hl.1 rfl (mm_cat rfl) dX2_readCompared_17 hP hD hA hS rfl rfl (fun H locs hP hD hS => ?_)
    refine W.eq (g2 := F0 m 20 ls [.int (mm_b r_9)]) rfl ?_
    refine lv_if_ne (tgt := 32) hx hb dX2_readCompared_20 (by decide) (fun c_11 => ?_) (fun c_11 => ?_)
    · have hf := mm_in hf (mm_b1 c_11)
      exact tX2_readCompared_32 hgo hE hd C0 hA N  _ _ _ _ _ _ _ H locs ls hf hP hD hS (lv_sub hl [0, 1] rfl)
    · have hf := mm_ip hf (mm_b0 c_11)
      refine lv_aload_n hx hb dX2_readCompared_23 rfl (lv_at hl 0 rfl) ?_
      refine lv_bipush (v := 62) hx hb dX2_readCompared_24 (by decide) ?_
      obtain ⟨r_12, hc_13, hf⟩ := mm_bd1s hf
      refine mm_callVF (q0 := 0) (ci := 2) (rest := []) C0 lk_X2_40 (ctX2_meets (a := a) (d := d - 1) (by omega) hc_13) (by omega) rfl hl.1 rfl (mm_cat rfl) dX2_readCompared_26 hP hD hA hS rfl rfl (fun H locs hP hD hS => ?_)
      refine W.eq (g2 := F0 m 29 ls [.int (mm_b r_12)]) rfl ?_
      refine lv_if_eq (tgt := 57) hx hb dX2_readCompared_29 (by decide) (fun c_14 => ?_) (fun c_14 => ?_)
      · have hf := mm_ip hf (mm_b0 c_14)
        apply mm_sub4 hf
        exact mm_vret C0 hP hD hS dX2_readCompared_57
      · have hf := mm_in hf (mm_b1 c_14)
        exact tX2_readCompared_32 hgo hE hd C0 hA N  _ _ _ _ _ _ _ H locs ls hf hP hD hS (lv_sub hl [0, 1] rfl)

theorem dX2_readBoth_0 : decode cX2_readBoth 0 = .ok (.aload_n 0, 1) := by decide +kernel
theorem dX2_readBoth_1 : decode cX2_readBoth 1 = .ok (.iload_n 1, 1) := by decide +kernel
theorem dX2_readBoth_2 : decode cX2_readBoth 2 = .ok (.invokevirtual 66, 3) := by decide +kernel
theorem dX2_readBoth_5 : decode cX2_readBoth 5 = .ok (.iconst 0, 1) := by decide +kernel
theorem dX2_readBoth_6 : decode cX2_readBoth 6 = .ok (.istore_n 2, 1) := by decide +kernel
theorem dX2_readBoth_7 : decode cX2_readBoth 7 = .ok (.iload_n 2, 1) := by decide +kernel
theorem dX2_readBoth_8 : decode cX2_readBoth 8 = .ok (.bipush 120, 2) := by decide +kernel
theorem dX2_readBoth_10 : decode cX2_readBoth 10 = .ok (.if_icmp .ge 39, 3) := by decide +kernel
theorem dX2_readBoth_13 : decode cX2_readBoth 13 = .ok (.aload_n 0, 1) := by decide +kernel
theorem dX2_readBoth_14 : decode cX2_readBoth 14 = .ok (.bipush 38, 2) := by decide +kernel
theorem dX2_readBoth_16 : decode cX2_readBoth 16 = .ok (.invokevirtual 40, 3) := by decide +kernel
theorem dX2_readBoth_19 : decode cX2_readBoth 19 = .ok (.ifCond .eq 30, 3) := by decide +kernel
theorem dX2_readBoth_22 : decode cX2_readBoth 22 = .ok (.aload_n 0, 1) := by decide +kernel
theorem dX2_readBoth_23 : decode cX2_readBoth 23 = .ok (.dup, 1) := by decide +kernel
theorem dX2_readBoth_24 : decode cX2_readBoth 24 = .ok (.getfield 28, 3) := by decide +kernel
theorem dX2_readBoth_27 : decode cX2_readBoth 27 = .ok (.iconst 1, 1) := by decide +kernel
theorem dX2_readBoth_28 : decode cX2_readBoth 28 = .ok (.iadd, 1) := by decide +kernel
theorem dX2_readBoth_29 : decode cX2_readBoth 29 = .ok (.putfield 28, 3) := by decide +kernel
theorem dX2_readBoth_32 : decode cX2_readBoth 32 = .ok (.aload_n 0, 1) := by decide +kernel
theorem dX2_readBoth_33 : decode cX2_readBoth 33 = .ok (.iload_n 1, 1) := by decide +kernel
theorem dX2_readBoth_34 : decode cX2_readBoth 34 = .ok (.invokevirtual 66, 3) := by decide +kernel
theorem dX2_readBoth_37 : decode cX2_readBoth 37 = .ok (.aload_n 0, 1) := by decide +kernel
theorem dX2_readBoth_38 : decode cX2_readBoth 38 = .ok (.bipush 38, 2) := by decide +kernel
theorem dX2_readBoth_40 : decode cX2_readBoth 40 = .ok (.invokevirtual 60, 3) := by decide +kernel
theorem dX2_readBoth_43 : decode cX2_readBoth 43 = .ok (.iinc 2 1, 3) := by decide +kernel
theorem dX2_readBoth_46 : decode cX2_readBoth 46 = .ok (.goto (-39), 3) := by decide +kernel
theorem dX2_readBoth_49 : decode cX2_readBoth 49 = .ok (.return_, 1) := by decide +kernel
def fX2_readBoth_7 (N : Nat) (go : Int32 → Int32 → Int32 → Int32 → Int32 → List Int32 → List Int32 → Option (Int32 × Int32 × Int32 × List Int32))  : Nat → Int32 → Int32 → Int32 → Int32 → Int32 → Int32 → List Int32 → List Int32 → Option (Int32 × Int32 × Int32 × List Int32)
  | 0 => fun _ _ _ _ _ _ _ _ => none
  | n + 1 => fun x1 x2 v_size v_draftCount v_place v_fault v_tape v_draft =>
    if (120 : Int32) ≤ x2 then
    (some (v_draftCount, v_place, v_fault, v_draft))
    else (mm_bd1 (fX2_meets N (38 : Int32) v_size v_place v_fault v_tape) (fun (r_7 : Bool) =>
    if r_7 = false then
    (some (v_draftCount, v_place, v_fault, v_draft))
    else (mm_nm ((v_place + (1 : Int32))) (fun (y_10 : Int32) =>
    mm_bd4 (fX2_readCompared N go x1 v_size v_draftCount y_10 v_fault v_tape v_draft) (fun (w_11 : Int32) (w_12 : Int32) (w_13 : Int32) (w_14 : List Int32) =>
    mm_bd2 (fX2_note N (38 : Int32) w_11 w_14) (fun (w_16 : Int32) (w_17 : List Int32) =>
    mm_nm (x2 + (1 : Int32)) (fun (y_19 : Int32) =>
    fX2_readBoth_7 N go n x1 y_19 v_size w_16 w_12 w_13 v_tape w_17)))))))

set_option maxHeartbeats 4000000 in
set_option maxRecDepth 100000 in
theorem tX2_readBoth_7 {p : Program} {l : Launch} {e : Env} {s : State} {m : MethodId} {args : Array Value} {below : List Frame} {meth : Method} {c : Code} {D : va_G} {cI cL cS cH : ClassId} {A : Nat → Prop} {d : Nat} {a : Nat → Nat} {go : Int32 → Int32 → Int32 → Int32 → Int32 → List Int32 → List Int32 → Option (Int32 × Int32 × Int32 × List Int32)} {dgo : Nat} (hgo : ∀ (a : Nat → Nat) (x1 : Int32) (v_size : Int32) (v_stepCount : Int32) (v_draftCount : Int32) (v_place : Int32) (v_fault : Int32) (v_stacked : Int32) (v_tape : List Int32) (v_steps : List Int32) (v_draft : List Int32) (v_stack : List Int32) (w_draftCount : Int32) (w_place : Int32) (w_fault : Int32) (w_draft : List Int32), go x1 v_size v_draftCount v_place v_fault v_tape v_draft = some (w_draftCount, w_place, w_fault, w_draft) → mm_Ct l yX2_readOne cX2_readOne 3 none dgo D (mm_T cI cL cS cH) [.ref (a 0), .int x1] (wd_X2 cI cL cS cH a v_size v_stepCount v_draftCount v_place v_fault v_stacked v_tape v_steps v_draft v_stack) (wd_X2 cI cL cS cH a v_size v_stepCount w_draftCount w_place w_fault v_stacked v_tape v_steps w_draft v_stack) none) (hE : 2 ≤ dgo) (hd : dgo + 4 ≤ d) (C0 : mm_Cx p s m args meth c RX2 cX2_readBoth 3 none D (mm_T cI cL cS cH) A) (hA : ∀ q, s.heap.size ≤ q → A q) {v_stepCount : Int32} {v_stacked : Int32} {v_steps : List Int32} {v_stack : List Int32} {w_draftCount : Int32} {w_place : Int32} {w_fault : Int32} {w_draft : List Int32} (N : Nat)  : ∀ (n : Nat), ∀ (x1 : Int32) (x2 : Int32) (v_size : Int32) (v_draftCount : Int32) (v_place : Int32) (v_fault : Int32) (v_tape : List Int32) (v_draft : List Int32) (H : Heap) (locs : List Loc) (ls : Array Slot), fX2_readBoth_7 N go n x1 x2 v_size v_draftCount v_place v_fault v_tape v_draft = some (w_draftCount, w_place, w_fault, w_draft) → va_P D mm_cl (wd_X2 cI cL cS cH a v_size v_stepCount v_draftCount v_place v_fault v_stacked v_tape v_steps v_draft v_stack) H → va_D A (wd_X2 cI cL cS cH a v_size v_stepCount v_draftCount v_place v_fault v_stacked v_tape v_steps v_draft v_stack) → va_S A s.heap H locs → lv_has ls 3 [(0, .ref (a 0)), (1, .int x1), (2, .int x2)] → W p l e (mm_rr d) s m args below meth c H locs 0 0 (mm_Z below D A (wd_X2 cI cL cS cH a v_size v_stepCount w_draftCount w_place w_fault v_stacked v_tape v_steps w_draft v_stack) none args s) (F0 m 7 ls []) := by
  obtain ⟨hx, hb, hml, hown, hts, hr, hlocks, hK, hSt⟩ := id C0
  intro n
  induction n with
  | zero =>
    intro x1 x2 v_size v_draftCount v_place v_fault v_tape v_draft H locs ls hf
    cases (show none = some _ from hf)
  | succ n ih =>
    intro x1 x2 v_size v_draftCount v_place v_fault v_tape v_draft H locs ls hf hP hD hS hl
    unfold fX2_readBoth_7 at hf
    refine lv_iload_n hx hb dX2_readBoth_7 rfl (lv_at hl 2 rfl) ?_
    refine lv_bipush (v := 120) hx hb dX2_readBoth_8 (by decide) ?_
    refine lv_icmp_ge (tgt := 49) hx hb dX2_readBoth_10 (by decide) (fun c_6 => ?_) (fun c_6 => ?_)
    · have hf := mm_ip hf c_6
      apply mm_sub4 hf
      exact mm_vret C0 hP hD hS dX2_readBoth_49
    · have hf := mm_in hf c_6
      refine lv_aload_n hx hb dX2_readBoth_13 rfl (lv_at hl 0 rfl) ?_
      refine lv_bipush (v := 38) hx hb dX2_readBoth_14 (by decide) ?_
      obtain ⟨r_7, hc_8, hf⟩ := mm_bd1s hf
      refine mm_callVF (q0 := 0) (ci := 2) (rest := []) C0 lk_X2_40 (ctX2_meets (a := a) (d := d - 1) (by omega) hc_8) (by omega) rfl hl.1 rfl (mm_cat rfl) dX2_readBoth_16 hP hD hA hS rfl rfl (fun H locs hP hD hS => ?_)
      refine W.eq (g2 := F0 m 19 ls [.int (mm_b r_7)]) rfl ?_
      refine lv_if_eq (tgt := 49) hx hb dX2_readBoth_19 (by decide) (fun c_9 => ?_) (fun c_9 => ?_)
      · have hf := mm_ip hf (mm_b0 c_9)
        apply mm_sub4 hf
        exact mm_vret C0 hP hD hS dX2_readBoth_49
      · have hf := mm_in hf (mm_b1 c_9)
        refine lv_aload_n hx hb dX2_readBoth_22 rfl (lv_at hl 0 rfl) ?_
        refine lv_dup hx hb dX2_readBoth_23 rfl ?_
        refine mm_get C0 hP iw_X2 0 rfl rfl 6 (by decide) fl_X2_28 rfl dX2_readBoth_24 ?_
        refine lv_iconst (v := 1) hx hb dX2_readBoth_27 (by decide) ?_
        refine lv_iadd hx hb dX2_readBoth_28 ?_
        refine lv_topi (fun y_10 ey_10 => ?_)
        have hf := mm_nms hf ey_10
        refine mm_put C0 hP hD hS iw_X2 tyX2 tyX2_ok nmX2 0 rfl rfl 6 (by decide) fl_X2_28 rfl rfl rfl (Nat.le_of_ble_eq_true rfl) dX2_readBoth_29 (w2 := (wd_X2 cI cL cS cH a v_size v_stepCount v_draftCount y_10 v_fault v_stacked v_tape v_steps v_draft v_stack)) rfl (fun H locs hP hD hS => ?_)
        refine lv_aload_n hx hb dX2_readBoth_32 rfl (lv_at hl 0 rfl) ?_
        refine lv_iload_n hx hb dX2_readBoth_33 rfl (lv_at hl 1 rfl) ?_
        obtain ⟨w_11, w_12, w_13, w_14, hc_15, hf⟩ := mm_bd4s hf
        refine mm_callVF (q0 := 0) (ci := 2) (rest := []) C0 lk_X2_66 (ctX2_readCompared (a := a) (d := d - 1) hgo hE (by omega) hc_15) (by omega) rfl hl.1 rfl (mm_cat rfl) dX2_readBoth_34 hP hD hA hS rfl rfl (fun H locs hP hD hS => ?_)
        refine W.eq (g2 := F0 m 37 ls []) rfl ?_
        refine lv_aload_n hx hb dX2_readBoth_37 rfl (lv_at hl 0 rfl) ?_
        refine lv_bipush (v := 38) hx hb dX2_readBoth_38 (by decide) ?_
        obtain ⟨w_16, w_17, hc_18, hf⟩ := mm_bd2s hf
        refine mm_callVF (q0 := 0) (ci := 2) (rest := []) C0 lk_X2_60 (ctX2_note (a := a) (d := d - 1) (by omega) hc_18) (by omega) rfl hl.1 rfl (mm_cat rfl) dX2_readBoth_40 hP hD hA hS rfl rfl (fun H locs hP hD hS => ?_)
        refine W.eq (g2 := F0 m 43 ls []) rfl ?_
        obtain ⟨y_19, ey_19⟩ : ∃ z : Int32, z = x2 + (1 : Int32) := ⟨_, rfl⟩
        have hf := mm_nms hf ey_19
        refine lv_iinc (v := y_19) (lv' := [(2, .int y_19), (0, .ref (a 0)), (1, .int x1)]) hx hb dX2_readBoth_43 hl (k := 2) rfl (by rw [ey_19]; rfl) (by decide) rfl (fun ls hl => ?_)
        refine lv_goto (tgt := 7) hx hb dX2_readBoth_46 (by decide) ?_
        exact ih _ _ _ _ _ _ _ _ H locs ls hf hP hD hS (lv_sub hl [1, 2, 0] rfl)

def fX2_readBoth (N : Nat) (go : Int32 → Int32 → Int32 → Int32 → Int32 → List Int32 → List Int32 → Option (Int32 × Int32 × Int32 × List Int32)) (x1 : Int32) (v_size : Int32) (v_draftCount : Int32) (v_place : Int32) (v_fault : Int32) (v_tape : List Int32) (v_draft : List Int32) : Option (Int32 × Int32 × Int32 × List Int32) :=
    mm_bd4 (fX2_readCompared N go x1 v_size v_draftCount v_place v_fault v_tape v_draft) (fun (w_1 : Int32) (w_2 : Int32) (w_3 : Int32) (w_4 : List Int32) =>
    fX2_readBoth_7 N go N x1 (0 : Int32) v_size w_1 w_2 w_3 v_tape w_4)

set_option maxHeartbeats 4000000 in
set_option maxRecDepth 100000 in
theorem ctX2_readBoth {l : Launch} {D : va_G} {cI cL cS cH : ClassId} {a : Nat → Nat} {x1 : Int32} {v_size : Int32} {v_stepCount : Int32} {v_draftCount : Int32} {v_place : Int32} {v_fault : Int32} {v_stacked : Int32} {v_tape : List Int32} {v_steps : List Int32} {v_draft : List Int32} {v_stack : List Int32} {w_draftCount : Int32} {w_place : Int32} {w_fault : Int32} {w_draft : List Int32} {N d : Nat} {go : Int32 → Int32 → Int32 → Int32 → Int32 → List Int32 → List Int32 → Option (Int32 × Int32 × Int32 × List Int32)} {dgo : Nat} (hgo : ∀ (a : Nat → Nat) (x1 : Int32) (v_size : Int32) (v_stepCount : Int32) (v_draftCount : Int32) (v_place : Int32) (v_fault : Int32) (v_stacked : Int32) (v_tape : List Int32) (v_steps : List Int32) (v_draft : List Int32) (v_stack : List Int32) (w_draftCount : Int32) (w_place : Int32) (w_fault : Int32) (w_draft : List Int32), go x1 v_size v_draftCount v_place v_fault v_tape v_draft = some (w_draftCount, w_place, w_fault, w_draft) → mm_Ct l yX2_readOne cX2_readOne 3 none dgo D (mm_T cI cL cS cH) [.ref (a 0), .int x1] (wd_X2 cI cL cS cH a v_size v_stepCount v_draftCount v_place v_fault v_stacked v_tape v_steps v_draft v_stack) (wd_X2 cI cL cS cH a v_size v_stepCount w_draftCount w_place w_fault v_stacked v_tape v_steps w_draft v_stack) none) (hE : 2 ≤ dgo) (hd : dgo + 4 ≤ d) (hf : fX2_readBoth N go x1 v_size v_draftCount v_place v_fault v_tape v_draft = some (w_draftCount, w_place, w_fault, w_draft)) : mm_Ct l yX2_readBoth cX2_readBoth 3 none d D (mm_T cI cL cS cH) [.ref (a 0), .int x1] (wd_X2 cI cL cS cH a v_size v_stepCount v_draftCount v_place v_fault v_stacked v_tape v_steps v_draft v_stack) (wd_X2 cI cL cS cH a v_size v_stepCount w_draftCount w_place w_fault v_stacked v_tape v_steps w_draft v_stack) none := by
  refine mm_of (by decide) (Nat.le_of_ble_eq_true rfl) ?_
  intro p e s m args below meth c A H locs ls C0 hP hD hA hS hl
  have C0 : mm_Cx p s m args meth c RX2 cX2_readBoth 3 none D (mm_T cI cL cS cH) A := C0
  obtain ⟨hx, hb, hml, hown, hts, hr, hlocks, hK, hSt⟩ := id C0
  have hl : lv_has ls 3 [(0, .ref (a 0)), (1, .int x1)] := hl
  unfold fX2_readBoth at hf
  refine lv_aload_n hx hb dX2_readBoth_0 rfl (lv_at hl 0 rfl) ?_
  refine lv_iload_n hx hb dX2_readBoth_1 rfl (lv_at hl 1 rfl) ?_
  obtain ⟨w_1, w_2, w_3, w_4, hc_5, hf⟩ := mm_bd4s hf
  refine mm_callVF (q0 := 0) (ci := 2) (rest := []) C0 lk_X2_66 (ctX2_readCompared (a := a) (d := d - 1) hgo hE (by omega) hc_5) (by omega) rfl hl.1 rfl (mm_cat rfl) dX2_readBoth_2 hP hD hA hS rfl rfl (fun H locs hP hD hS => ?_)
  refine W.eq (g2 := F0 m 5 ls []) rfl ?_
  refine lv_iconst (v := 0) hx hb dX2_readBoth_5 (by decide) ?_
  refine lv_istore_n (lv' := [(2, .int (0 : Int32)), (0, .ref (a 0)), (1, .int x1)]) hx hb dX2_readBoth_6 rfl hl (by decide) rfl (fun ls hl => ?_)
  exact tX2_readBoth_7 hgo hE hd C0 hA N  N _ _ _ _ _ _ _ _ H locs ls hf hP hD hS (lv_sub hl [1, 2, 0] rfl)

theorem dX2_readEither_0 : decode cX2_readEither 0 = .ok (.aload_n 0, 1) := by decide +kernel
theorem dX2_readEither_1 : decode cX2_readEither 1 = .ok (.iload_n 1, 1) := by decide +kernel
theorem dX2_readEither_2 : decode cX2_readEither 2 = .ok (.invokevirtual 63, 3) := by decide +kernel
theorem dX2_readEither_5 : decode cX2_readEither 5 = .ok (.iconst 0, 1) := by decide +kernel
theorem dX2_readEither_6 : decode cX2_readEither 6 = .ok (.istore_n 2, 1) := by decide +kernel
theorem dX2_readEither_7 : decode cX2_readEither 7 = .ok (.iload_n 2, 1) := by decide +kernel
theorem dX2_readEither_8 : decode cX2_readEither 8 = .ok (.bipush 120, 2) := by decide +kernel
theorem dX2_readEither_10 : decode cX2_readEither 10 = .ok (.if_icmp .ge 39, 3) := by decide +kernel
theorem dX2_readEither_13 : decode cX2_readEither 13 = .ok (.aload_n 0, 1) := by decide +kernel
theorem dX2_readEither_14 : decode cX2_readEither 14 = .ok (.bipush 124, 2) := by decide +kernel
theorem dX2_readEither_16 : decode cX2_readEither 16 = .ok (.invokevirtual 40, 3) := by decide +kernel
theorem dX2_readEither_19 : decode cX2_readEither 19 = .ok (.ifCond .eq 30, 3) := by decide +kernel
theorem dX2_readEither_22 : decode cX2_readEither 22 = .ok (.aload_n 0, 1) := by decide +kernel
theorem dX2_readEither_23 : decode cX2_readEither 23 = .ok (.dup, 1) := by decide +kernel
theorem dX2_readEither_24 : decode cX2_readEither 24 = .ok (.getfield 28, 3) := by decide +kernel
theorem dX2_readEither_27 : decode cX2_readEither 27 = .ok (.iconst 1, 1) := by decide +kernel
theorem dX2_readEither_28 : decode cX2_readEither 28 = .ok (.iadd, 1) := by decide +kernel
theorem dX2_readEither_29 : decode cX2_readEither 29 = .ok (.putfield 28, 3) := by decide +kernel
theorem dX2_readEither_32 : decode cX2_readEither 32 = .ok (.aload_n 0, 1) := by decide +kernel
theorem dX2_readEither_33 : decode cX2_readEither 33 = .ok (.iload_n 1, 1) := by decide +kernel
theorem dX2_readEither_34 : decode cX2_readEither 34 = .ok (.invokevirtual 63, 3) := by decide +kernel
theorem dX2_readEither_37 : decode cX2_readEither 37 = .ok (.aload_n 0, 1) := by decide +kernel
theorem dX2_readEither_38 : decode cX2_readEither 38 = .ok (.bipush 124, 2) := by decide +kernel
theorem dX2_readEither_40 : decode cX2_readEither 40 = .ok (.invokevirtual 60, 3) := by decide +kernel
theorem dX2_readEither_43 : decode cX2_readEither 43 = .ok (.iinc 2 1, 3) := by decide +kernel
theorem dX2_readEither_46 : decode cX2_readEither 46 = .ok (.goto (-39), 3) := by decide +kernel
theorem dX2_readEither_49 : decode cX2_readEither 49 = .ok (.return_, 1) := by decide +kernel
def fX2_readEither_7 (N : Nat) (go : Int32 → Int32 → Int32 → Int32 → Int32 → List Int32 → List Int32 → Option (Int32 × Int32 × Int32 × List Int32))  : Nat → Int32 → Int32 → Int32 → Int32 → Int32 → Int32 → List Int32 → List Int32 → Option (Int32 × Int32 × Int32 × List Int32)
  | 0 => fun _ _ _ _ _ _ _ _ => none
  | n + 1 => fun x1 x2 v_size v_draftCount v_place v_fault v_tape v_draft =>
    if (120 : Int32) ≤ x2 then
    (some (v_draftCount, v_place, v_fault, v_draft))
    else (mm_bd1 (fX2_meets N (124 : Int32) v_size v_place v_fault v_tape) (fun (r_7 : Bool) =>
    if r_7 = false then
    (some (v_draftCount, v_place, v_fault, v_draft))
    else (mm_nm ((v_place + (1 : Int32))) (fun (y_10 : Int32) =>
    mm_bd4 (fX2_readBoth N go x1 v_size v_draftCount y_10 v_fault v_tape v_draft) (fun (w_11 : Int32) (w_12 : Int32) (w_13 : Int32) (w_14 : List Int32) =>
    mm_bd2 (fX2_note N (124 : Int32) w_11 w_14) (fun (w_16 : Int32) (w_17 : List Int32) =>
    mm_nm (x2 + (1 : Int32)) (fun (y_19 : Int32) =>
    fX2_readEither_7 N go n x1 y_19 v_size w_16 w_12 w_13 v_tape w_17)))))))

set_option maxHeartbeats 4000000 in
set_option maxRecDepth 100000 in
theorem tX2_readEither_7 {p : Program} {l : Launch} {e : Env} {s : State} {m : MethodId} {args : Array Value} {below : List Frame} {meth : Method} {c : Code} {D : va_G} {cI cL cS cH : ClassId} {A : Nat → Prop} {d : Nat} {a : Nat → Nat} {go : Int32 → Int32 → Int32 → Int32 → Int32 → List Int32 → List Int32 → Option (Int32 × Int32 × Int32 × List Int32)} {dgo : Nat} (hgo : ∀ (a : Nat → Nat) (x1 : Int32) (v_size : Int32) (v_stepCount : Int32) (v_draftCount : Int32) (v_place : Int32) (v_fault : Int32) (v_stacked : Int32) (v_tape : List Int32) (v_steps : List Int32) (v_draft : List Int32) (v_stack : List Int32) (w_draftCount : Int32) (w_place : Int32) (w_fault : Int32) (w_draft : List Int32), go x1 v_size v_draftCount v_place v_fault v_tape v_draft = some (w_draftCount, w_place, w_fault, w_draft) → mm_Ct l yX2_readOne cX2_readOne 3 none dgo D (mm_T cI cL cS cH) [.ref (a 0), .int x1] (wd_X2 cI cL cS cH a v_size v_stepCount v_draftCount v_place v_fault v_stacked v_tape v_steps v_draft v_stack) (wd_X2 cI cL cS cH a v_size v_stepCount w_draftCount w_place w_fault v_stacked v_tape v_steps w_draft v_stack) none) (hE : 2 ≤ dgo) (hd : dgo + 5 ≤ d) (C0 : mm_Cx p s m args meth c RX2 cX2_readEither 3 none D (mm_T cI cL cS cH) A) (hA : ∀ q, s.heap.size ≤ q → A q) {v_stepCount : Int32} {v_stacked : Int32} {v_steps : List Int32} {v_stack : List Int32} {w_draftCount : Int32} {w_place : Int32} {w_fault : Int32} {w_draft : List Int32} (N : Nat)  : ∀ (n : Nat), ∀ (x1 : Int32) (x2 : Int32) (v_size : Int32) (v_draftCount : Int32) (v_place : Int32) (v_fault : Int32) (v_tape : List Int32) (v_draft : List Int32) (H : Heap) (locs : List Loc) (ls : Array Slot), fX2_readEither_7 N go n x1 x2 v_size v_draftCount v_place v_fault v_tape v_draft = some (w_draftCount, w_place, w_fault, w_draft) → va_P D mm_cl (wd_X2 cI cL cS cH a v_size v_stepCount v_draftCount v_place v_fault v_stacked v_tape v_steps v_draft v_stack) H → va_D A (wd_X2 cI cL cS cH a v_size v_stepCount v_draftCount v_place v_fault v_stacked v_tape v_steps v_draft v_stack) → va_S A s.heap H locs → lv_has ls 3 [(0, .ref (a 0)), (1, .int x1), (2, .int x2)] → W p l e (mm_rr d) s m args below meth c H locs 0 0 (mm_Z below D A (wd_X2 cI cL cS cH a v_size v_stepCount w_draftCount w_place w_fault v_stacked v_tape v_steps w_draft v_stack) none args s) (F0 m 7 ls []) := by
  obtain ⟨hx, hb, hml, hown, hts, hr, hlocks, hK, hSt⟩ := id C0
  intro n
  induction n with
  | zero =>
    intro x1 x2 v_size v_draftCount v_place v_fault v_tape v_draft H locs ls hf
    cases (show none = some _ from hf)
  | succ n ih =>
    intro x1 x2 v_size v_draftCount v_place v_fault v_tape v_draft H locs ls hf hP hD hS hl
    unfold fX2_readEither_7 at hf
    refine lv_iload_n hx hb dX2_readEither_7 rfl (lv_at hl 2 rfl) ?_
    refine lv_bipush (v := 120) hx hb dX2_readEither_8 (by decide) ?_
    refine lv_icmp_ge (tgt := 49) hx hb dX2_readEither_10 (by decide) (fun c_6 => ?_) (fun c_6 => ?_)
    · have hf := mm_ip hf c_6
      apply mm_sub4 hf
      exact mm_vret C0 hP hD hS dX2_readEither_49
    · have hf := mm_in hf c_6
      refine lv_aload_n hx hb dX2_readEither_13 rfl (lv_at hl 0 rfl) ?_
      refine lv_bipush (v := 124) hx hb dX2_readEither_14 (by decide) ?_
      obtain ⟨r_7, hc_8, hf⟩ := mm_bd1s hf
      refine mm_callVF (q0 := 0) (ci := 2) (rest := []) C0 lk_X2_40 (ctX2_meets (a := a) (d := d - 1) (by omega) hc_8) (by omega) rfl hl.1 rfl (mm_cat rfl) dX2_readEither_16 hP hD hA hS rfl rfl (fun H locs hP hD hS => ?_)
      refine W.eq (g2 := F0 m 19 ls [.int (mm_b r_7)]) rfl ?_
      refine lv_if_eq (tgt := 49) hx hb dX2_readEither_19 (by decide) (fun c_9 => ?_) (fun c_9 => ?_)
      · have hf := mm_ip hf (mm_b0 c_9)
        apply mm_sub4 hf
        exact mm_vret C0 hP hD hS dX2_readEither_49
      · have hf := mm_in hf (mm_b1 c_9)
        refine lv_aload_n hx hb dX2_readEither_22 rfl (lv_at hl 0 rfl) ?_
        refine lv_dup hx hb dX2_readEither_23 rfl ?_
        refine mm_get C0 hP iw_X2 0 rfl rfl 6 (by decide) fl_X2_28 rfl dX2_readEither_24 ?_
        refine lv_iconst (v := 1) hx hb dX2_readEither_27 (by decide) ?_
        refine lv_iadd hx hb dX2_readEither_28 ?_
        refine lv_topi (fun y_10 ey_10 => ?_)
        have hf := mm_nms hf ey_10
        refine mm_put C0 hP hD hS iw_X2 tyX2 tyX2_ok nmX2 0 rfl rfl 6 (by decide) fl_X2_28 rfl rfl rfl (Nat.le_of_ble_eq_true rfl) dX2_readEither_29 (w2 := (wd_X2 cI cL cS cH a v_size v_stepCount v_draftCount y_10 v_fault v_stacked v_tape v_steps v_draft v_stack)) rfl (fun H locs hP hD hS => ?_)
        refine lv_aload_n hx hb dX2_readEither_32 rfl (lv_at hl 0 rfl) ?_
        refine lv_iload_n hx hb dX2_readEither_33 rfl (lv_at hl 1 rfl) ?_
        obtain ⟨w_11, w_12, w_13, w_14, hc_15, hf⟩ := mm_bd4s hf
        refine mm_callVF (q0 := 0) (ci := 2) (rest := []) C0 lk_X2_63 (ctX2_readBoth (a := a) (d := d - 1) hgo hE (by omega) hc_15) (by omega) rfl hl.1 rfl (mm_cat rfl) dX2_readEither_34 hP hD hA hS rfl rfl (fun H locs hP hD hS => ?_)
        refine W.eq (g2 := F0 m 37 ls []) rfl ?_
        refine lv_aload_n hx hb dX2_readEither_37 rfl (lv_at hl 0 rfl) ?_
        refine lv_bipush (v := 124) hx hb dX2_readEither_38 (by decide) ?_
        obtain ⟨w_16, w_17, hc_18, hf⟩ := mm_bd2s hf
        refine mm_callVF (q0 := 0) (ci := 2) (rest := []) C0 lk_X2_60 (ctX2_note (a := a) (d := d - 1) (by omega) hc_18) (by omega) rfl hl.1 rfl (mm_cat rfl) dX2_readEither_40 hP hD hA hS rfl rfl (fun H locs hP hD hS => ?_)
        refine W.eq (g2 := F0 m 43 ls []) rfl ?_
        obtain ⟨y_19, ey_19⟩ : ∃ z : Int32, z = x2 + (1 : Int32) := ⟨_, rfl⟩
        have hf := mm_nms hf ey_19
        refine lv_iinc (v := y_19) (lv' := [(2, .int y_19), (0, .ref (a 0)), (1, .int x1)]) hx hb dX2_readEither_43 hl (k := 2) rfl (by rw [ey_19]; rfl) (by decide) rfl (fun ls hl => ?_)
        refine lv_goto (tgt := 7) hx hb dX2_readEither_46 (by decide) ?_
        exact ih _ _ _ _ _ _ _ _ H locs ls hf hP hD hS (lv_sub hl [1, 2, 0] rfl)

def fX2_readEither (N : Nat) (go : Int32 → Int32 → Int32 → Int32 → Int32 → List Int32 → List Int32 → Option (Int32 × Int32 × Int32 × List Int32)) (x1 : Int32) (v_size : Int32) (v_draftCount : Int32) (v_place : Int32) (v_fault : Int32) (v_tape : List Int32) (v_draft : List Int32) : Option (Int32 × Int32 × Int32 × List Int32) :=
    mm_bd4 (fX2_readBoth N go x1 v_size v_draftCount v_place v_fault v_tape v_draft) (fun (w_1 : Int32) (w_2 : Int32) (w_3 : Int32) (w_4 : List Int32) =>
    fX2_readEither_7 N go N x1 (0 : Int32) v_size w_1 w_2 w_3 v_tape w_4)

set_option maxHeartbeats 4000000 in
set_option maxRecDepth 100000 in
theorem ctX2_readEither {l : Launch} {D : va_G} {cI cL cS cH : ClassId} {a : Nat → Nat} {x1 : Int32} {v_size : Int32} {v_stepCount : Int32} {v_draftCount : Int32} {v_place : Int32} {v_fault : Int32} {v_stacked : Int32} {v_tape : List Int32} {v_steps : List Int32} {v_draft : List Int32} {v_stack : List Int32} {w_draftCount : Int32} {w_place : Int32} {w_fault : Int32} {w_draft : List Int32} {N d : Nat} {go : Int32 → Int32 → Int32 → Int32 → Int32 → List Int32 → List Int32 → Option (Int32 × Int32 × Int32 × List Int32)} {dgo : Nat} (hgo : ∀ (a : Nat → Nat) (x1 : Int32) (v_size : Int32) (v_stepCount : Int32) (v_draftCount : Int32) (v_place : Int32) (v_fault : Int32) (v_stacked : Int32) (v_tape : List Int32) (v_steps : List Int32) (v_draft : List Int32) (v_stack : List Int32) (w_draftCount : Int32) (w_place : Int32) (w_fault : Int32) (w_draft : List Int32), go x1 v_size v_draftCount v_place v_fault v_tape v_draft = some (w_draftCount, w_place, w_fault, w_draft) → mm_Ct l yX2_readOne cX2_readOne 3 none dgo D (mm_T cI cL cS cH) [.ref (a 0), .int x1] (wd_X2 cI cL cS cH a v_size v_stepCount v_draftCount v_place v_fault v_stacked v_tape v_steps v_draft v_stack) (wd_X2 cI cL cS cH a v_size v_stepCount w_draftCount w_place w_fault v_stacked v_tape v_steps w_draft v_stack) none) (hE : 2 ≤ dgo) (hd : dgo + 5 ≤ d) (hf : fX2_readEither N go x1 v_size v_draftCount v_place v_fault v_tape v_draft = some (w_draftCount, w_place, w_fault, w_draft)) : mm_Ct l yX2_readEither cX2_readEither 3 none d D (mm_T cI cL cS cH) [.ref (a 0), .int x1] (wd_X2 cI cL cS cH a v_size v_stepCount v_draftCount v_place v_fault v_stacked v_tape v_steps v_draft v_stack) (wd_X2 cI cL cS cH a v_size v_stepCount w_draftCount w_place w_fault v_stacked v_tape v_steps w_draft v_stack) none := by
  refine mm_of (by decide) (Nat.le_of_ble_eq_true rfl) ?_
  intro p e s m args below meth c A H locs ls C0 hP hD hA hS hl
  have C0 : mm_Cx p s m args meth c RX2 cX2_readEither 3 none D (mm_T cI cL cS cH) A := C0
  obtain ⟨hx, hb, hml, hown, hts, hr, hlocks, hK, hSt⟩ := id C0
  have hl : lv_has ls 3 [(0, .ref (a 0)), (1, .int x1)] := hl
  unfold fX2_readEither at hf
  refine lv_aload_n hx hb dX2_readEither_0 rfl (lv_at hl 0 rfl) ?_
  refine lv_iload_n hx hb dX2_readEither_1 rfl (lv_at hl 1 rfl) ?_
  obtain ⟨w_1, w_2, w_3, w_4, hc_5, hf⟩ := mm_bd4s hf
  refine mm_callVF (q0 := 0) (ci := 2) (rest := []) C0 lk_X2_63 (ctX2_readBoth (a := a) (d := d - 1) hgo hE (by omega) hc_5) (by omega) rfl hl.1 rfl (mm_cat rfl) dX2_readEither_2 hP hD hA hS rfl rfl (fun H locs hP hD hS => ?_)
  refine W.eq (g2 := F0 m 5 ls []) rfl ?_
  refine lv_iconst (v := 0) hx hb dX2_readEither_5 (by decide) ?_
  refine lv_istore_n (lv' := [(2, .int (0 : Int32)), (0, .ref (a 0)), (1, .int x1)]) hx hb dX2_readEither_6 rfl hl (by decide) rfl (fun ls hl => ?_)
  exact tX2_readEither_7 hgo hE hd C0 hA N  N _ _ _ _ _ _ _ _ H locs ls hf hP hD hS (lv_sub hl [1, 2, 0] rfl)

theorem dX2_readOne_0 : decode cX2_readOne 0 = .ok (.aload_n 0, 1) := by decide +kernel
theorem dX2_readOne_1 : decode cX2_readOne 1 = .ok (.invokevirtual 72, 3) := by decide +kernel
theorem dX2_readOne_4 : decode cX2_readOne 4 = .ok (.istore_n 2, 1) := by decide +kernel
theorem dX2_readOne_5 : decode cX2_readOne 5 = .ok (.iload_n 2, 1) := by decide +kernel
theorem dX2_readOne_6 : decode cX2_readOne 6 = .ok (.invokestatic 82, 3) := by decide +kernel
theorem dX2_readOne_9 : decode cX2_readOne 9 = .ok (.ifCond .eq 10, 3) := by decide +kernel
theorem dX2_readOne_12 : decode cX2_readOne 12 = .ok (.aload_n 0, 1) := by decide +kernel
theorem dX2_readOne_13 : decode cX2_readOne 13 = .ok (.invokevirtual 85, 3) := by decide +kernel
theorem dX2_readOne_16 : decode cX2_readOne 16 = .ok (.goto 145, 3) := by decide +kernel
theorem dX2_readOne_19 : decode cX2_readOne 19 = .ok (.iload_n 2, 1) := by decide +kernel
theorem dX2_readOne_20 : decode cX2_readOne 20 = .ok (.invokestatic 88, 3) := by decide +kernel
theorem dX2_readOne_23 : decode cX2_readOne 23 = .ok (.ifCond .eq 21, 3) := by decide +kernel
theorem dX2_readOne_26 : decode cX2_readOne 26 = .ok (.aload_n 0, 1) := by decide +kernel
theorem dX2_readOne_27 : decode cX2_readOne 27 = .ok (.dup, 1) := by decide +kernel
theorem dX2_readOne_28 : decode cX2_readOne 28 = .ok (.getfield 28, 3) := by decide +kernel
theorem dX2_readOne_31 : decode cX2_readOne 31 = .ok (.iconst 1, 1) := by decide +kernel
theorem dX2_readOne_32 : decode cX2_readOne 32 = .ok (.iadd, 1) := by decide +kernel
theorem dX2_readOne_33 : decode cX2_readOne 33 = .ok (.putfield 28, 3) := by decide +kernel
theorem dX2_readOne_36 : decode cX2_readOne 36 = .ok (.aload_n 0, 1) := by decide +kernel
theorem dX2_readOne_37 : decode cX2_readOne 37 = .ok (.iload_n 2, 1) := by decide +kernel
theorem dX2_readOne_38 : decode cX2_readOne 38 = .ok (.invokevirtual 60, 3) := by decide +kernel
theorem dX2_readOne_41 : decode cX2_readOne 41 = .ok (.goto 120, 3) := by decide +kernel
theorem dX2_readOne_44 : decode cX2_readOne 44 = .ok (.iload_n 1, 1) := by decide +kernel
theorem dX2_readOne_45 : decode cX2_readOne 45 = .ok (.bipush 6, 2) := by decide +kernel
theorem dX2_readOne_47 : decode cX2_readOne 47 = .ok (.if_icmp .ge 52, 3) := by decide +kernel
theorem dX2_readOne_50 : decode cX2_readOne 50 = .ok (.iload_n 2, 1) := by decide +kernel
theorem dX2_readOne_51 : decode cX2_readOne 51 = .ok (.bipush 33, 2) := by decide +kernel
theorem dX2_readOne_53 : decode cX2_readOne 53 = .ok (.if_icmp .eq 9, 3) := by decide +kernel
theorem dX2_readOne_56 : decode cX2_readOne 56 = .ok (.iload_n 2, 1) := by decide +kernel
theorem dX2_readOne_57 : decode cX2_readOne 57 = .ok (.bipush 45, 2) := by decide +kernel
theorem dX2_readOne_59 : decode cX2_readOne 59 = .ok (.if_icmp .ne 40, 3) := by decide +kernel
theorem dX2_readOne_62 : decode cX2_readOne 62 = .ok (.aload_n 0, 1) := by decide +kernel
theorem dX2_readOne_63 : decode cX2_readOne 63 = .ok (.dup, 1) := by decide +kernel
theorem dX2_readOne_64 : decode cX2_readOne 64 = .ok (.getfield 28, 3) := by decide +kernel
theorem dX2_readOne_67 : decode cX2_readOne 67 = .ok (.iconst 1, 1) := by decide +kernel
theorem dX2_readOne_68 : decode cX2_readOne 68 = .ok (.iadd, 1) := by decide +kernel
theorem dX2_readOne_69 : decode cX2_readOne 69 = .ok (.putfield 28, 3) := by decide +kernel
theorem dX2_readOne_72 : decode cX2_readOne 72 = .ok (.aload_n 0, 1) := by decide +kernel
theorem dX2_readOne_73 : decode cX2_readOne 73 = .ok (.iload_n 1, 1) := by decide +kernel
theorem dX2_readOne_74 : decode cX2_readOne 74 = .ok (.iconst 1, 1) := by decide +kernel
theorem dX2_readOne_75 : decode cX2_readOne 75 = .ok (.iadd, 1) := by decide +kernel
theorem dX2_readOne_76 : decode cX2_readOne 76 = .ok (.invokevirtual 79, 3) := by decide +kernel
theorem dX2_readOne_79 : decode cX2_readOne 79 = .ok (.aload_n 0, 1) := by decide +kernel
theorem dX2_readOne_80 : decode cX2_readOne 80 = .ok (.iload_n 2, 1) := by decide +kernel
theorem dX2_readOne_81 : decode cX2_readOne 81 = .ok (.bipush 33, 2) := by decide +kernel
theorem dX2_readOne_83 : decode cX2_readOne 83 = .ok (.if_icmp .ne 8, 3) := by decide +kernel
theorem dX2_readOne_86 : decode cX2_readOne 86 = .ok (.bipush 33, 2) := by decide +kernel
theorem dX2_readOne_88 : decode cX2_readOne 88 = .ok (.goto 5, 3) := by decide +kernel
theorem dX2_readOne_91 : decode cX2_readOne 91 = .ok (.bipush 126, 2) := by decide +kernel
theorem dX2_readOne_93 : decode cX2_readOne 93 = .ok (.invokevirtual 60, 3) := by decide +kernel
theorem dX2_readOne_96 : decode cX2_readOne 96 = .ok (.goto 65, 3) := by decide +kernel
theorem dX2_readOne_99 : decode cX2_readOne 99 = .ok (.iload_n 1, 1) := by decide +kernel
theorem dX2_readOne_100 : decode cX2_readOne 100 = .ok (.bipush 6, 2) := by decide +kernel
theorem dX2_readOne_102 : decode cX2_readOne 102 = .ok (.if_icmp .ge 55, 3) := by decide +kernel
theorem dX2_readOne_105 : decode cX2_readOne 105 = .ok (.iload_n 2, 1) := by decide +kernel
theorem dX2_readOne_106 : decode cX2_readOne 106 = .ok (.bipush 40, 2) := by decide +kernel
theorem dX2_readOne_108 : decode cX2_readOne 108 = .ok (.if_icmp .ne 49, 3) := by decide +kernel
theorem dX2_readOne_111 : decode cX2_readOne 111 = .ok (.aload_n 0, 1) := by decide +kernel
theorem dX2_readOne_112 : decode cX2_readOne 112 = .ok (.dup, 1) := by decide +kernel
theorem dX2_readOne_113 : decode cX2_readOne 113 = .ok (.getfield 28, 3) := by decide +kernel
theorem dX2_readOne_116 : decode cX2_readOne 116 = .ok (.iconst 1, 1) := by decide +kernel
theorem dX2_readOne_117 : decode cX2_readOne 117 = .ok (.iadd, 1) := by decide +kernel
theorem dX2_readOne_118 : decode cX2_readOne 118 = .ok (.putfield 28, 3) := by decide +kernel
theorem dX2_readOne_121 : decode cX2_readOne 121 = .ok (.aload_n 0, 1) := by decide +kernel
theorem dX2_readOne_122 : decode cX2_readOne 122 = .ok (.iload_n 1, 1) := by decide +kernel
theorem dX2_readOne_123 : decode cX2_readOne 123 = .ok (.iconst 1, 1) := by decide +kernel
theorem dX2_readOne_124 : decode cX2_readOne 124 = .ok (.iadd, 1) := by decide +kernel
theorem dX2_readOne_125 : decode cX2_readOne 125 = .ok (.invokevirtual 56, 3) := by decide +kernel
theorem dX2_readOne_128 : decode cX2_readOne 128 = .ok (.aload_n 0, 1) := by decide +kernel
theorem dX2_readOne_129 : decode cX2_readOne 129 = .ok (.bipush 41, 2) := by decide +kernel
theorem dX2_readOne_131 : decode cX2_readOne 131 = .ok (.invokevirtual 40, 3) := by decide +kernel
theorem dX2_readOne_134 : decode cX2_readOne 134 = .ok (.ifCond .eq 16, 3) := by decide +kernel
theorem dX2_readOne_137 : decode cX2_readOne 137 = .ok (.aload_n 0, 1) := by decide +kernel
theorem dX2_readOne_138 : decode cX2_readOne 138 = .ok (.dup, 1) := by decide +kernel
theorem dX2_readOne_139 : decode cX2_readOne 139 = .ok (.getfield 28, 3) := by decide +kernel
theorem dX2_readOne_142 : decode cX2_readOne 142 = .ok (.iconst 1, 1) := by decide +kernel
theorem dX2_readOne_143 : decode cX2_readOne 143 = .ok (.iadd, 1) := by decide +kernel
theorem dX2_readOne_144 : decode cX2_readOne 144 = .ok (.putfield 28, 3) := by decide +kernel
theorem dX2_readOne_147 : decode cX2_readOne 147 = .ok (.goto 14, 3) := by decide +kernel
theorem dX2_readOne_150 : decode cX2_readOne 150 = .ok (.aload_n 0, 1) := by decide +kernel
theorem dX2_readOne_151 : decode cX2_readOne 151 = .ok (.invokevirtual 44, 3) := by decide +kernel
theorem dX2_readOne_154 : decode cX2_readOne 154 = .ok (.goto 7, 3) := by decide +kernel
theorem dX2_readOne_157 : decode cX2_readOne 157 = .ok (.aload_n 0, 1) := by decide +kernel
theorem dX2_readOne_158 : decode cX2_readOne 158 = .ok (.invokevirtual 44, 3) := by decide +kernel
theorem dX2_readOne_161 : decode cX2_readOne 161 = .ok (.return_, 1) := by decide +kernel
def fX2_readOne_93 (N : Nat) (go : Int32 → Int32 → Int32 → Int32 → Int32 → List Int32 → List Int32 → Option (Int32 × Int32 × Int32 × List Int32))  (s0 : Int32) (v_size : Int32) (v_draftCount : Int32) (v_place : Int32) (v_fault : Int32) (v_tape : List Int32) (v_draft : List Int32) : Option (Int32 × Int32 × Int32 × List Int32) :=
    mm_bd2 (fX2_note N s0 v_draftCount v_draft) (fun (w_27 : Int32) (w_28 : List Int32) =>
    some (w_27, v_place, v_fault, w_28))

set_option maxHeartbeats 4000000 in
set_option maxRecDepth 100000 in
theorem tX2_readOne_93 {p : Program} {l : Launch} {e : Env} {s : State} {m : MethodId} {args : Array Value} {below : List Frame} {meth : Method} {c : Code} {D : va_G} {cI cL cS cH : ClassId} {A : Nat → Prop} {d : Nat} {a : Nat → Nat} {go : Int32 → Int32 → Int32 → Int32 → Int32 → List Int32 → List Int32 → Option (Int32 × Int32 × Int32 × List Int32)} {dgo : Nat} (hgo : ∀ (a : Nat → Nat) (x1 : Int32) (v_size : Int32) (v_stepCount : Int32) (v_draftCount : Int32) (v_place : Int32) (v_fault : Int32) (v_stacked : Int32) (v_tape : List Int32) (v_steps : List Int32) (v_draft : List Int32) (v_stack : List Int32) (w_draftCount : Int32) (w_place : Int32) (w_fault : Int32) (w_draft : List Int32), go x1 v_size v_draftCount v_place v_fault v_tape v_draft = some (w_draftCount, w_place, w_fault, w_draft) → mm_Ct l yX2_readOne cX2_readOne 3 none dgo D (mm_T cI cL cS cH) [.ref (a 0), .int x1] (wd_X2 cI cL cS cH a v_size v_stepCount v_draftCount v_place v_fault v_stacked v_tape v_steps v_draft v_stack) (wd_X2 cI cL cS cH a v_size v_stepCount w_draftCount w_place w_fault v_stacked v_tape v_steps w_draft v_stack) none) (hE : 2 ≤ dgo) (hd : dgo + 6 ≤ d) (C0 : mm_Cx p s m args meth c RX2 cX2_readOne 3 none D (mm_T cI cL cS cH) A) (hA : ∀ q, s.heap.size ≤ q → A q) {v_stepCount : Int32} {v_stacked : Int32} {v_steps : List Int32} {v_stack : List Int32} {w_draftCount : Int32} {w_place : Int32} {w_fault : Int32} {w_draft : List Int32} (N : Nat)  : ∀ (s0 : Int32) (v_size : Int32) (v_draftCount : Int32) (v_place : Int32) (v_fault : Int32) (v_tape : List Int32) (v_draft : List Int32) (H : Heap) (locs : List Loc) (ls : Array Slot), fX2_readOne_93 N go s0 v_size v_draftCount v_place v_fault v_tape v_draft = some (w_draftCount, w_place, w_fault, w_draft) → va_P D mm_cl (wd_X2 cI cL cS cH a v_size v_stepCount v_draftCount v_place v_fault v_stacked v_tape v_steps v_draft v_stack) H → va_D A (wd_X2 cI cL cS cH a v_size v_stepCount v_draftCount v_place v_fault v_stacked v_tape v_steps v_draft v_stack) → va_S A s.heap H locs → lv_has ls 3 [] → W p l e (mm_rr d) s m args below meth c H locs 0 0 (mm_Z below D A (wd_X2 cI cL cS cH a v_size v_stepCount w_draftCount w_place w_fault v_stacked v_tape v_steps w_draft v_stack) none args s) (F0 m 93 ls [.int s0, .ref (a 0)]) := by
  obtain ⟨hx, hb, hml, hown, hts, hr, hlocks, hK, hSt⟩ := id C0
  intro s0 v_size v_draftCount v_place v_fault v_tape v_draft H locs ls hf hP hD hS hl
  unfold fX2_readOne_93 at hf
  obtain ⟨w_27, w_28, hc_29, hf⟩ := mm_bd2s hf
  refine mm_callVF (q0 := 0) (ci := 2) (rest := []) C0 lk_X2_60 (ctX2_note (a := a) (d := d - 1) (by omega) hc_29) (by omega) rfl hl.1 rfl (mm_cat rfl) dX2_readOne_93 hP hD hA hS rfl rfl (fun H locs hP hD hS => ?_)
  refine W.eq (g2 := F0 m 96 ls []) rfl ?_
  refine lv_goto (tgt := 161) hx hb dX2_readOne_96 (by decide) ?_
  apply mm_sub4 hf
  exact mm_vret C0 hP hD hS dX2_readOne_161

def fX2_readOne_62 (N : Nat) (go : Int32 → Int32 → Int32 → Int32 → Int32 → List Int32 → List Int32 → Option (Int32 × Int32 × Int32 × List Int32))  (x1 : Int32) (x2 : Int32) (v_size : Int32) (v_draftCount : Int32) (v_place : Int32) (v_fault : Int32) (v_tape : List Int32) (v_draft : List Int32) : Option (Int32 × Int32 × Int32 × List Int32) :=
    mm_nm ((v_place + (1 : Int32))) (fun (y_20 : Int32) =>
    mm_bd4 (go (x1 + (1 : Int32)) v_size v_draftCount y_20 v_fault v_tape v_draft) (fun (w_21 : Int32) (w_22 : Int32) (w_23 : Int32) (w_24 : List Int32) =>
    if x2 = (33 : Int32) then
    (fX2_readOne_93 N go (33 : Int32) v_size w_21 w_22 w_23 v_tape w_24)
    else (fX2_readOne_93 N go (126 : Int32) v_size w_21 w_22 w_23 v_tape w_24)))

set_option maxHeartbeats 4000000 in
set_option maxRecDepth 100000 in
theorem tX2_readOne_62 {p : Program} {l : Launch} {e : Env} {s : State} {m : MethodId} {args : Array Value} {below : List Frame} {meth : Method} {c : Code} {D : va_G} {cI cL cS cH : ClassId} {A : Nat → Prop} {d : Nat} {a : Nat → Nat} {go : Int32 → Int32 → Int32 → Int32 → Int32 → List Int32 → List Int32 → Option (Int32 × Int32 × Int32 × List Int32)} {dgo : Nat} (hgo : ∀ (a : Nat → Nat) (x1 : Int32) (v_size : Int32) (v_stepCount : Int32) (v_draftCount : Int32) (v_place : Int32) (v_fault : Int32) (v_stacked : Int32) (v_tape : List Int32) (v_steps : List Int32) (v_draft : List Int32) (v_stack : List Int32) (w_draftCount : Int32) (w_place : Int32) (w_fault : Int32) (w_draft : List Int32), go x1 v_size v_draftCount v_place v_fault v_tape v_draft = some (w_draftCount, w_place, w_fault, w_draft) → mm_Ct l yX2_readOne cX2_readOne 3 none dgo D (mm_T cI cL cS cH) [.ref (a 0), .int x1] (wd_X2 cI cL cS cH a v_size v_stepCount v_draftCount v_place v_fault v_stacked v_tape v_steps v_draft v_stack) (wd_X2 cI cL cS cH a v_size v_stepCount w_draftCount w_place w_fault v_stacked v_tape v_steps w_draft v_stack) none) (hE : 2 ≤ dgo) (hd : dgo + 6 ≤ d) (C0 : mm_Cx p s m args meth c RX2 cX2_readOne 3 none D (mm_T cI cL cS cH) A) (hA : ∀ q, s.heap.size ≤ q → A q) {v_stepCount : Int32} {v_stacked : Int32} {v_steps : List Int32} {v_stack : List Int32} {w_draftCount : Int32} {w_place : Int32} {w_fault : Int32} {w_draft : List Int32} (N : Nat)  : ∀ (x1 : Int32) (x2 : Int32) (v_size : Int32) (v_draftCount : Int32) (v_place : Int32) (v_fault : Int32) (v_tape : List Int32) (v_draft : List Int32) (H : Heap) (locs : List Loc) (ls : Array Slot), fX2_readOne_62 N go x1 x2 v_size v_draftCount v_place v_fault v_tape v_draft = some (w_draftCount, w_place, w_fault, w_draft) → va_P D mm_cl (wd_X2 cI cL cS cH a v_size v_stepCount v_draftCount v_place v_fault v_stacked v_tape v_steps v_draft v_stack) H → va_D A (wd_X2 cI cL cS cH a v_size v_stepCount v_draftCount v_place v_fault v_stacked v_tape v_steps v_draft v_stack) → va_S A s.heap H locs → lv_has ls 3 [(0, .ref (a 0)), (1, .int x1), (2, .int x2)] → W p l e (mm_rr d) s m args below meth c H locs 0 0 (mm_Z below D A (wd_X2 cI cL cS cH a v_size v_stepCount w_draftCount w_place w_fault v_stacked v_tape v_steps w_draft v_stack) none args s) (F0 m 62 ls []) := by
  obtain ⟨hx, hb, hml, hown, hts, hr, hlocks, hK, hSt⟩ := id C0
  intro x1 x2 v_size v_draftCount v_place v_fault v_tape v_draft H locs ls hf hP hD hS hl
  unfold fX2_readOne_62 at hf
  refine lv_aload_n hx hb dX2_readOne_62 rfl (lv_at hl 0 rfl) ?_
  refine lv_dup hx hb dX2_readOne_63 rfl ?_
  refine mm_get C0 hP iw_X2 0 rfl rfl 6 (by decide) fl_X2_28 rfl dX2_readOne_64 ?_
  refine lv_iconst (v := 1) hx hb dX2_readOne_67 (by decide) ?_
  refine lv_iadd hx hb dX2_readOne_68 ?_
  refine lv_topi (fun y_20 ey_20 => ?_)
  have hf := mm_nms hf ey_20
  refine mm_put C0 hP hD hS iw_X2 tyX2 tyX2_ok nmX2 0 rfl rfl 6 (by decide) fl_X2_28 rfl rfl rfl (Nat.le_of_ble_eq_true rfl) dX2_readOne_69 (w2 := (wd_X2 cI cL cS cH a v_size v_stepCount v_draftCount y_20 v_fault v_stacked v_tape v_steps v_draft v_stack)) rfl (fun H locs hP hD hS => ?_)
  refine lv_aload_n hx hb dX2_readOne_72 rfl (lv_at hl 0 rfl) ?_
  refine lv_iload_n hx hb dX2_readOne_73 rfl (lv_at hl 1 rfl) ?_
  refine lv_iconst (v := 1) hx hb dX2_readOne_74 (by decide) ?_
  refine lv_iadd hx hb dX2_readOne_75 ?_
  obtain ⟨w_21, w_22, w_23, w_24, hc_25, hf⟩ := mm_bd4s hf
  refine mm_callVF (q0 := 0) (ci := 2) (rest := []) C0 lk_X2_79 (hgo a _ _ _ _ _ _ _ _ _ _ _ _ _ _ _ hc_25) (by omega) rfl hl.1 rfl (mm_cat rfl) dX2_readOne_76 hP hD hA hS rfl rfl (fun H locs hP hD hS => ?_)
  refine W.eq (g2 := F0 m 79 ls []) rfl ?_
  refine lv_aload_n hx hb dX2_readOne_79 rfl (lv_at hl 0 rfl) ?_
  refine lv_iload_n hx hb dX2_readOne_80 rfl (lv_at hl 2 rfl) ?_
  refine lv_bipush (v := 33) hx hb dX2_readOne_81 (by decide) ?_
  refine lv_icmp_ne (tgt := 91) hx hb dX2_readOne_83 (by decide) (fun c_26 => ?_) (fun c_26 => ?_)
  · have hf := mm_in hf c_26
    refine lv_bipush (v := 126) hx hb dX2_readOne_91 (by decide) ?_
    exact tX2_readOne_93 hgo hE hd C0 hA N  _ _ _ _ _ _ _ H locs ls hf hP hD hS (lv_sub hl [] rfl)
  · have hf := mm_ip hf c_26
    refine lv_bipush (v := 33) hx hb dX2_readOne_86 (by decide) ?_
    refine lv_goto (tgt := 93) hx hb dX2_readOne_88 (by decide) ?_
    exact tX2_readOne_93 hgo hE hd C0 hA N  _ _ _ _ _ _ _ H locs ls hf hP hD hS (lv_sub hl [] rfl)

def fX2_readOne_157 (N : Nat) (go : Int32 → Int32 → Int32 → Int32 → Int32 → List Int32 → List Int32 → Option (Int32 × Int32 × Int32 × List Int32))  (v_size : Int32) (v_draftCount : Int32) (v_place : Int32) (v_fault : Int32) (v_tape : List Int32) (v_draft : List Int32) : Option (Int32 × Int32 × Int32 × List Int32) :=
    mm_bd1 (fX2_fail N v_place v_fault) (fun (w_44 : Int32) =>
    some (v_draftCount, v_place, w_44, v_draft))

set_option maxHeartbeats 4000000 in
set_option maxRecDepth 100000 in
theorem tX2_readOne_157 {p : Program} {l : Launch} {e : Env} {s : State} {m : MethodId} {args : Array Value} {below : List Frame} {meth : Method} {c : Code} {D : va_G} {cI cL cS cH : ClassId} {A : Nat → Prop} {d : Nat} {a : Nat → Nat} {go : Int32 → Int32 → Int32 → Int32 → Int32 → List Int32 → List Int32 → Option (Int32 × Int32 × Int32 × List Int32)} {dgo : Nat} (hgo : ∀ (a : Nat → Nat) (x1 : Int32) (v_size : Int32) (v_stepCount : Int32) (v_draftCount : Int32) (v_place : Int32) (v_fault : Int32) (v_stacked : Int32) (v_tape : List Int32) (v_steps : List Int32) (v_draft : List Int32) (v_stack : List Int32) (w_draftCount : Int32) (w_place : Int32) (w_fault : Int32) (w_draft : List Int32), go x1 v_size v_draftCount v_place v_fault v_tape v_draft = some (w_draftCount, w_place, w_fault, w_draft) → mm_Ct l yX2_readOne cX2_readOne 3 none dgo D (mm_T cI cL cS cH) [.ref (a 0), .int x1] (wd_X2 cI cL cS cH a v_size v_stepCount v_draftCount v_place v_fault v_stacked v_tape v_steps v_draft v_stack) (wd_X2 cI cL cS cH a v_size v_stepCount w_draftCount w_place w_fault v_stacked v_tape v_steps w_draft v_stack) none) (hE : 2 ≤ dgo) (hd : dgo + 6 ≤ d) (C0 : mm_Cx p s m args meth c RX2 cX2_readOne 3 none D (mm_T cI cL cS cH) A) (hA : ∀ q, s.heap.size ≤ q → A q) {v_stepCount : Int32} {v_stacked : Int32} {v_steps : List Int32} {v_stack : List Int32} {w_draftCount : Int32} {w_place : Int32} {w_fault : Int32} {w_draft : List Int32} (N : Nat)  : ∀ (v_size : Int32) (v_draftCount : Int32) (v_place : Int32) (v_fault : Int32) (v_tape : List Int32) (v_draft : List Int32) (H : Heap) (locs : List Loc) (ls : Array Slot), fX2_readOne_157 N go v_size v_draftCount v_place v_fault v_tape v_draft = some (w_draftCount, w_place, w_fault, w_draft) → va_P D mm_cl (wd_X2 cI cL cS cH a v_size v_stepCount v_draftCount v_place v_fault v_stacked v_tape v_steps v_draft v_stack) H → va_D A (wd_X2 cI cL cS cH a v_size v_stepCount v_draftCount v_place v_fault v_stacked v_tape v_steps v_draft v_stack) → va_S A s.heap H locs → lv_has ls 3 [(0, .ref (a 0))] → W p l e (mm_rr d) s m args below meth c H locs 0 0 (mm_Z below D A (wd_X2 cI cL cS cH a v_size v_stepCount w_draftCount w_place w_fault v_stacked v_tape v_steps w_draft v_stack) none args s) (F0 m 157 ls []) := by
  obtain ⟨hx, hb, hml, hown, hts, hr, hlocks, hK, hSt⟩ := id C0
  intro v_size v_draftCount v_place v_fault v_tape v_draft H locs ls hf hP hD hS hl
  unfold fX2_readOne_157 at hf
  refine lv_aload_n hx hb dX2_readOne_157 rfl (lv_at hl 0 rfl) ?_
  obtain ⟨w_44, hc_45, hf⟩ := mm_bd1s hf
  refine mm_callVF (q0 := 0) (ci := 2) (rest := []) C0 lk_X2_44 (ctX2_fail (a := a) (d := d - 1) (by omega) hc_45) (by omega) rfl hl.1 rfl (mm_cat rfl) dX2_readOne_158 hP hD hA hS rfl rfl (fun H locs hP hD hS => ?_)
  refine W.eq (g2 := F0 m 161 ls []) rfl ?_
  apply mm_sub4 hf
  exact mm_vret C0 hP hD hS dX2_readOne_161

def fX2_readOne_99 (N : Nat) (go : Int32 → Int32 → Int32 → Int32 → Int32 → List Int32 → List Int32 → Option (Int32 × Int32 × Int32 × List Int32))  (x1 : Int32) (x2 : Int32) (v_size : Int32) (v_draftCount : Int32) (v_place : Int32) (v_fault : Int32) (v_tape : List Int32) (v_draft : List Int32) : Option (Int32 × Int32 × Int32 × List Int32) :=
    if (6 : Int32) ≤ x1 then
    (fX2_readOne_157 N go v_size v_draftCount v_place v_fault v_tape v_draft)
    else (if x2 = (40 : Int32) then
    (mm_nm ((v_place + (1 : Int32))) (fun (y_32 : Int32) =>
    mm_bd4 (fX2_readEither N go (x1 + (1 : Int32)) v_size v_draftCount y_32 v_fault v_tape v_draft) (fun (w_33 : Int32) (w_34 : Int32) (w_35 : Int32) (w_36 : List Int32) =>
    mm_bd1 (fX2_meets N (41 : Int32) v_size w_34 w_35 v_tape) (fun (r_38 : Bool) =>
    if r_38 = false then
    (mm_bd1 (fX2_fail N w_34 w_35) (fun (w_41 : Int32) =>
    some (w_33, w_34, w_41, w_36)))
    else (mm_nm ((w_34 + (1 : Int32))) (fun (y_43 : Int32) =>
    some (w_33, y_43, w_35, w_36)))))))
    else (fX2_readOne_157 N go v_size v_draftCount v_place v_fault v_tape v_draft))

set_option maxHeartbeats 4000000 in
set_option maxRecDepth 100000 in
theorem tX2_readOne_99 {p : Program} {l : Launch} {e : Env} {s : State} {m : MethodId} {args : Array Value} {below : List Frame} {meth : Method} {c : Code} {D : va_G} {cI cL cS cH : ClassId} {A : Nat → Prop} {d : Nat} {a : Nat → Nat} {go : Int32 → Int32 → Int32 → Int32 → Int32 → List Int32 → List Int32 → Option (Int32 × Int32 × Int32 × List Int32)} {dgo : Nat} (hgo : ∀ (a : Nat → Nat) (x1 : Int32) (v_size : Int32) (v_stepCount : Int32) (v_draftCount : Int32) (v_place : Int32) (v_fault : Int32) (v_stacked : Int32) (v_tape : List Int32) (v_steps : List Int32) (v_draft : List Int32) (v_stack : List Int32) (w_draftCount : Int32) (w_place : Int32) (w_fault : Int32) (w_draft : List Int32), go x1 v_size v_draftCount v_place v_fault v_tape v_draft = some (w_draftCount, w_place, w_fault, w_draft) → mm_Ct l yX2_readOne cX2_readOne 3 none dgo D (mm_T cI cL cS cH) [.ref (a 0), .int x1] (wd_X2 cI cL cS cH a v_size v_stepCount v_draftCount v_place v_fault v_stacked v_tape v_steps v_draft v_stack) (wd_X2 cI cL cS cH a v_size v_stepCount w_draftCount w_place w_fault v_stacked v_tape v_steps w_draft v_stack) none) (hE : 2 ≤ dgo) (hd : dgo + 6 ≤ d) (C0 : mm_Cx p s m args meth c RX2 cX2_readOne 3 none D (mm_T cI cL cS cH) A) (hA : ∀ q, s.heap.size ≤ q → A q) {v_stepCount : Int32} {v_stacked : Int32} {v_steps : List Int32} {v_stack : List Int32} {w_draftCount : Int32} {w_place : Int32} {w_fault : Int32} {w_draft : List Int32} (N : Nat)  : ∀ (x1 : Int32) (x2 : Int32) (v_size : Int32) (v_draftCount : Int32) (v_place : Int32) (v_fault : Int32) (v_tape : List Int32) (v_draft : List Int32) (H : Heap) (locs : List Loc) (ls : Array Slot), fX2_readOne_99 N go x1 x2 v_size v_draftCount v_place v_fault v_tape v_draft = some (w_draftCount, w_place, w_fault, w_draft) → va_P D mm_cl (wd_X2 cI cL cS cH a v_size v_stepCount v_draftCount v_place v_fault v_stacked v_tape v_steps v_draft v_stack) H → va_D A (wd_X2 cI cL cS cH a v_size v_stepCount v_draftCount v_place v_fault v_stacked v_tape v_steps v_draft v_stack) → va_S A s.heap H locs → lv_has ls 3 [(0, .ref (a 0)), (1, .int x1), (2, .int x2)] → W p l e (mm_rr d) s m args below meth c H locs 0 0 (mm_Z below D A (wd_X2 cI cL cS cH a v_size v_stepCount w_draftCount w_place w_fault v_stacked v_tape v_steps w_draft v_stack) none args s) (F0 m 99 ls []) := by
  obtain ⟨hx, hb, hml, hown, hts, hr, hlocks, hK, hSt⟩ := id C0
  intro x1 x2 v_size v_draftCount v_place v_fault v_tape v_draft H locs ls hf hP hD hS hl
  unfold fX2_readOne_99 at hf
  refine lv_iload_n hx hb dX2_readOne_99 rfl (lv_at hl 1 rfl) ?_
  refine lv_bipush (v := 6) hx hb dX2_readOne_100 (by decide) ?_
  refine lv_icmp_ge (tgt := 157) hx hb dX2_readOne_102 (by decide) (fun c_30 => ?_) (fun c_30 => ?_)
  · have hf := mm_ip hf c_30
    exact tX2_readOne_157 hgo hE hd C0 hA N  _ _ _ _ _ _ H locs ls hf hP hD hS (lv_sub hl [0] rfl)
  · have hf := mm_in hf c_30
    refine lv_iload_n hx hb dX2_readOne_105 rfl (lv_at hl 2 rfl) ?_
    refine lv_bipush (v := 40) hx hb dX2_readOne_106 (by decide) ?_
    refine lv_icmp_ne (tgt := 157) hx hb dX2_readOne_108 (by decide) (fun c_31 => ?_) (fun c_31 => ?_)
    · have hf := mm_in hf c_31
      exact tX2_readOne_157 hgo hE hd C0 hA N  _ _ _ _ _ _ H locs ls hf hP hD hS (lv_sub hl [0] rfl)
    · have hf := mm_ip hf c_31
      refine lv_aload_n hx hb dX2_readOne_111 rfl (lv_at hl 0 rfl) ?_
      refine lv_dup hx hb dX2_readOne_112 rfl ?_
      refine mm_get C0 hP iw_X2 0 rfl rfl 6 (by decide) fl_X2_28 rfl dX2_readOne_113 ?_
      refine lv_iconst (v := 1) hx hb dX2_readOne_116 (by decide) ?_
      refine lv_iadd hx hb dX2_readOne_117 ?_
      refine lv_topi (fun y_32 ey_32 => ?_)
      have hf := mm_nms hf ey_32
      refine mm_put C0 hP hD hS iw_X2 tyX2 tyX2_ok nmX2 0 rfl rfl 6 (by decide) fl_X2_28 rfl rfl rfl (Nat.le_of_ble_eq_true rfl) dX2_readOne_118 (w2 := (wd_X2 cI cL cS cH a v_size v_stepCount v_draftCount y_32 v_fault v_stacked v_tape v_steps v_draft v_stack)) rfl (fun H locs hP hD hS => ?_)
      refine lv_aload_n hx hb dX2_readOne_121 rfl (lv_at hl 0 rfl) ?_
      refine lv_iload_n hx hb dX2_readOne_122 rfl (lv_at hl 1 rfl) ?_
      refine lv_iconst (v := 1) hx hb dX2_readOne_123 (by decide) ?_
      refine lv_iadd hx hb dX2_readOne_124 ?_
      obtain ⟨w_33, w_34, w_35, w_36, hc_37, hf⟩ := mm_bd4s hf
      refine mm_callVF (q0 := 0) (ci := 2) (rest := []) C0 lk_X2_56 (ctX2_readEither (a := a) (d := d - 1) hgo hE (by omega) hc_37) (by omega) rfl hl.1 rfl (mm_cat rfl) dX2_readOne_125 hP hD hA hS rfl rfl (fun H locs hP hD hS => ?_)
      refine W.eq (g2 := F0 m 128 ls []) rfl ?_
      refine lv_aload_n hx hb dX2_readOne_128 rfl (lv_at hl 0 rfl) ?_
      refine lv_bipush (v := 41) hx hb dX2_readOne_129 (by decide) ?_
      obtain ⟨r_38, hc_39, hf⟩ := mm_bd1s hf
      refine mm_callVF (q0 := 0) (ci := 2) (rest := []) C0 lk_X2_40 (ctX2_meets (a := a) (d := d - 1) (by omega) hc_39) (by omega) rfl hl.1 rfl (mm_cat rfl) dX2_readOne_131 hP hD hA hS rfl rfl (fun H locs hP hD hS => ?_)
      refine W.eq (g2 := F0 m 134 ls [.int (mm_b r_38)]) rfl ?_
      refine lv_if_eq (tgt := 150) hx hb dX2_readOne_134 (by decide) (fun c_40 => ?_) (fun c_40 => ?_)
      · have hf := mm_ip hf (mm_b0 c_40)
        refine lv_aload_n hx hb dX2_readOne_150 rfl (lv_at hl 0 rfl) ?_
        obtain ⟨w_41, hc_42, hf⟩ := mm_bd1s hf
        refine mm_callVF (q0 := 0) (ci := 2) (rest := []) C0 lk_X2_44 (ctX2_fail (a := a) (d := d - 1) (by omega) hc_42) (by omega) rfl hl.1 rfl (mm_cat rfl) dX2_readOne_151 hP hD hA hS rfl rfl (fun H locs hP hD hS => ?_)
        refine W.eq (g2 := F0 m 154 ls []) rfl ?_
        refine lv_goto (tgt := 161) hx hb dX2_readOne_154 (by decide) ?_
        apply mm_sub4 hf
        exact mm_vret C0 hP hD hS dX2_readOne_161
      · have hf := mm_in hf (mm_b1 c_40)
        refine lv_aload_n hx hb dX2_readOne_137 rfl (lv_at hl 0 rfl) ?_
        refine lv_dup hx hb dX2_readOne_138 rfl ?_
        refine mm_get C0 hP iw_X2 0 rfl rfl 6 (by decide) fl_X2_28 rfl dX2_readOne_139 ?_
        refine lv_iconst (v := 1) hx hb dX2_readOne_142 (by decide) ?_
        refine lv_iadd hx hb dX2_readOne_143 ?_
        refine lv_topi (fun y_43 ey_43 => ?_)
        have hf := mm_nms hf ey_43
        refine mm_put C0 hP hD hS iw_X2 tyX2 tyX2_ok nmX2 0 rfl rfl 6 (by decide) fl_X2_28 rfl rfl rfl (Nat.le_of_ble_eq_true rfl) dX2_readOne_144 (w2 := (wd_X2 cI cL cS cH a v_size v_stepCount w_33 y_43 w_35 v_stacked v_tape v_steps w_36 v_stack)) rfl (fun H locs hP hD hS => ?_)
        refine lv_goto (tgt := 161) hx hb dX2_readOne_147 (by decide) ?_
        apply mm_sub4 hf
        exact mm_vret C0 hP hD hS dX2_readOne_161

def fX2_readOneo (N : Nat) (go : Int32 → Int32 → Int32 → Int32 → Int32 → List Int32 → List Int32 → Option (Int32 × Int32 × Int32 × List Int32)) (x1 : Int32) (v_size : Int32) (v_draftCount : Int32) (v_place : Int32) (v_fault : Int32) (v_tape : List Int32) (v_draft : List Int32) : Option (Int32 × Int32 × Int32 × List Int32) :=
    mm_bd1 (fX2_next N v_size v_place v_tape) (fun (r_1 : Int32) =>
    mm_bd1 (fX2_isDigit N r_1) (fun (r_3 : Bool) =>
    if r_3 = false then
    (mm_bd1 (fX2_isName N r_1) (fun (r_6 : Bool) =>
    if r_6 = false then
    (if (6 : Int32) ≤ x1 then
    (fX2_readOne_99 N go x1 r_1 v_size v_draftCount v_place v_fault v_tape v_draft)
    else (if r_1 = (33 : Int32) then
    (fX2_readOne_62 N go x1 r_1 v_size v_draftCount v_place v_fault v_tape v_draft)
    else (if r_1 = (45 : Int32) then
    (fX2_readOne_62 N go x1 r_1 v_size v_draftCount v_place v_fault v_tape v_draft)
    else (fX2_readOne_99 N go x1 r_1 v_size v_draftCount v_place v_fault v_tape v_draft))))
    else (mm_nm ((v_place + (1 : Int32))) (fun (y_12 : Int32) =>
    mm_bd2 (fX2_note N r_1 v_draftCount v_draft) (fun (w_13 : Int32) (w_14 : List Int32) =>
    some (w_13, y_12, v_fault, w_14))))))
    else (mm_bd3 (fX2_readNumber N v_size v_draftCount v_place v_tape v_draft) (fun (w_16 : Int32) (w_17 : Int32) (w_18 : List Int32) =>
    some (w_16, w_17, v_fault, w_18)))))

set_option maxHeartbeats 4000000 in
set_option maxRecDepth 100000 in
theorem ctX2_readOneo {l : Launch} {D : va_G} {cI cL cS cH : ClassId} {a : Nat → Nat} {x1 : Int32} {v_size : Int32} {v_stepCount : Int32} {v_draftCount : Int32} {v_place : Int32} {v_fault : Int32} {v_stacked : Int32} {v_tape : List Int32} {v_steps : List Int32} {v_draft : List Int32} {v_stack : List Int32} {w_draftCount : Int32} {w_place : Int32} {w_fault : Int32} {w_draft : List Int32} {N d : Nat} {go : Int32 → Int32 → Int32 → Int32 → Int32 → List Int32 → List Int32 → Option (Int32 × Int32 × Int32 × List Int32)} {dgo : Nat} (hgo : ∀ (a : Nat → Nat) (x1 : Int32) (v_size : Int32) (v_stepCount : Int32) (v_draftCount : Int32) (v_place : Int32) (v_fault : Int32) (v_stacked : Int32) (v_tape : List Int32) (v_steps : List Int32) (v_draft : List Int32) (v_stack : List Int32) (w_draftCount : Int32) (w_place : Int32) (w_fault : Int32) (w_draft : List Int32), go x1 v_size v_draftCount v_place v_fault v_tape v_draft = some (w_draftCount, w_place, w_fault, w_draft) → mm_Ct l yX2_readOne cX2_readOne 3 none dgo D (mm_T cI cL cS cH) [.ref (a 0), .int x1] (wd_X2 cI cL cS cH a v_size v_stepCount v_draftCount v_place v_fault v_stacked v_tape v_steps v_draft v_stack) (wd_X2 cI cL cS cH a v_size v_stepCount w_draftCount w_place w_fault v_stacked v_tape v_steps w_draft v_stack) none) (hE : 2 ≤ dgo) (hd : dgo + 6 ≤ d) (hf : fX2_readOneo N go x1 v_size v_draftCount v_place v_fault v_tape v_draft = some (w_draftCount, w_place, w_fault, w_draft)) : mm_Ct l yX2_readOne cX2_readOne 3 none d D (mm_T cI cL cS cH) [.ref (a 0), .int x1] (wd_X2 cI cL cS cH a v_size v_stepCount v_draftCount v_place v_fault v_stacked v_tape v_steps v_draft v_stack) (wd_X2 cI cL cS cH a v_size v_stepCount w_draftCount w_place w_fault v_stacked v_tape v_steps w_draft v_stack) none := by
  refine mm_of (by decide) (Nat.le_of_ble_eq_true rfl) ?_
  intro p e s m args below meth c A H locs ls C0 hP hD hA hS hl
  have C0 : mm_Cx p s m args meth c RX2 cX2_readOne 3 none D (mm_T cI cL cS cH) A := C0
  obtain ⟨hx, hb, hml, hown, hts, hr, hlocks, hK, hSt⟩ := id C0
  have hl : lv_has ls 3 [(0, .ref (a 0)), (1, .int x1)] := hl
  unfold fX2_readOneo at hf
  refine lv_aload_n hx hb dX2_readOne_0 rfl (lv_at hl 0 rfl) ?_
  obtain ⟨r_1, hc_2, hf⟩ := mm_bd1s hf
  refine mm_callVF (q0 := 0) (ci := 2) (rest := []) C0 lk_X2_72 (ctX2_next (a := a) (d := d - 1) (by omega) hc_2) (by omega) rfl hl.1 rfl (mm_cat rfl) dX2_readOne_1 hP hD hA hS rfl rfl (fun H locs hP hD hS => ?_)
  refine W.eq (g2 := F0 m 4 ls [.int r_1]) rfl ?_
  refine lv_istore_n (lv' := [(2, .int r_1), (0, .ref (a 0)), (1, .int x1)]) hx hb dX2_readOne_4 rfl hl (by decide) rfl (fun ls hl => ?_)
  refine lv_iload_n hx hb dX2_readOne_5 rfl (lv_at hl 0 rfl) ?_
  obtain ⟨r_3, hc_4, hf⟩ := mm_bd1s hf
  refine mm_callS0 (rest := []) C0 lk_X2_82 (ctX2_isDigit (d := d - 1) (by omega) hc_4) (by omega) rfl hl.1 rfl (mm_cat rfl) dX2_readOne_6 hP hD hA hS (fun H locs hP hS => ?_)
  refine W.eq (g2 := F0 m 9 ls [.int (mm_b r_3)]) rfl ?_
  refine lv_if_eq (tgt := 19) hx hb dX2_readOne_9 (by decide) (fun c_5 => ?_) (fun c_5 => ?_)
  · have hf := mm_ip hf (mm_b0 c_5)
    refine lv_iload_n hx hb dX2_readOne_19 rfl (lv_at hl 0 rfl) ?_
    obtain ⟨r_6, hc_7, hf⟩ := mm_bd1s hf
    refine mm_callS0 (rest := []) C0 lk_X2_88 (ctX2_isName (d := d - 1) (by omega) hc_7) (by omega) rfl hl.1 rfl (mm_cat rfl) dX2_readOne_20 hP hD hA hS (fun H locs hP hS => ?_)
    refine W.eq (g2 := F0 m 23 ls [.int (mm_b r_6)]) rfl ?_
    refine lv_if_eq (tgt := 44) hx hb dX2_readOne_23 (by decide) (fun c_8 => ?_) (fun c_8 => ?_)
    · have hf := mm_ip hf (mm_b0 c_8)
      refine lv_iload_n hx hb dX2_readOne_44 rfl (lv_at hl 2 rfl) ?_
      refine lv_bipush (v := 6) hx hb dX2_readOne_45 (by decide) ?_
      refine lv_icmp_ge (tgt := 99) hx hb dX2_readOne_47 (by decide) (fun c_9 => ?_) (fun c_9 => ?_)
      · have hf := mm_ip hf c_9
        exact tX2_readOne_99 hgo hE hd C0 hA N  _ _ _ _ _ _ _ _ H locs ls hf hP hD hS (lv_sub hl [1, 2, 0] rfl)
      · have hf := mm_in hf c_9
        refine lv_iload_n hx hb dX2_readOne_50 rfl (lv_at hl 0 rfl) ?_
        refine lv_bipush (v := 33) hx hb dX2_readOne_51 (by decide) ?_
        refine lv_icmp_eq (tgt := 62) hx hb dX2_readOne_53 (by decide) (fun c_10 => ?_) (fun c_10 => ?_)
        · have hf := mm_ip hf c_10
          exact tX2_readOne_62 hgo hE hd C0 hA N  _ _ _ _ _ _ _ _ H locs ls hf hP hD hS (lv_sub hl [1, 2, 0] rfl)
        · have hf := mm_in hf c_10
          refine lv_iload_n hx hb dX2_readOne_56 rfl (lv_at hl 0 rfl) ?_
          refine lv_bipush (v := 45) hx hb dX2_readOne_57 (by decide) ?_
          refine lv_icmp_ne (tgt := 99) hx hb dX2_readOne_59 (by decide) (fun c_11 => ?_) (fun c_11 => ?_)
          · have hf := mm_in hf c_11
            exact tX2_readOne_99 hgo hE hd C0 hA N  _ _ _ _ _ _ _ _ H locs ls hf hP hD hS (lv_sub hl [1, 2, 0] rfl)
          · have hf := mm_ip hf c_11
            exact tX2_readOne_62 hgo hE hd C0 hA N  _ _ _ _ _ _ _ _ H locs ls hf hP hD hS (lv_sub hl [1, 2, 0] rfl)
    · have hf := mm_in hf (mm_b1 c_8)
      refine lv_aload_n hx hb dX2_readOne_26 rfl (lv_at hl 1 rfl) ?_
      refine lv_dup hx hb dX2_readOne_27 rfl ?_
      refine mm_get C0 hP iw_X2 0 rfl rfl 6 (by decide) fl_X2_28 rfl dX2_readOne_28 ?_
      refine lv_iconst (v := 1) hx hb dX2_readOne_31 (by decide) ?_
      refine lv_iadd hx hb dX2_readOne_32 ?_
      refine lv_topi (fun y_12 ey_12 => ?_)
      have hf := mm_nms hf ey_12
      refine mm_put C0 hP hD hS iw_X2 tyX2 tyX2_ok nmX2 0 rfl rfl 6 (by decide) fl_X2_28 rfl rfl rfl (Nat.le_of_ble_eq_true rfl) dX2_readOne_33 (w2 := (wd_X2 cI cL cS cH a v_size v_stepCount v_draftCount y_12 v_fault v_stacked v_tape v_steps v_draft v_stack)) rfl (fun H locs hP hD hS => ?_)
      refine lv_aload_n hx hb dX2_readOne_36 rfl (lv_at hl 1 rfl) ?_
      refine lv_iload_n hx hb dX2_readOne_37 rfl (lv_at hl 0 rfl) ?_
      obtain ⟨w_13, w_14, hc_15, hf⟩ := mm_bd2s hf
      refine mm_callVF (q0 := 0) (ci := 2) (rest := []) C0 lk_X2_60 (ctX2_note (a := a) (d := d - 1) (by omega) hc_15) (by omega) rfl hl.1 rfl (mm_cat rfl) dX2_readOne_38 hP hD hA hS rfl rfl (fun H locs hP hD hS => ?_)
      refine W.eq (g2 := F0 m 41 ls []) rfl ?_
      refine lv_goto (tgt := 161) hx hb dX2_readOne_41 (by decide) ?_
      apply mm_sub4 hf
      exact mm_vret C0 hP hD hS dX2_readOne_161
  · have hf := mm_in hf (mm_b1 c_5)
    refine lv_aload_n hx hb dX2_readOne_12 rfl (lv_at hl 1 rfl) ?_
    obtain ⟨w_16, w_17, w_18, hc_19, hf⟩ := mm_bd3s hf
    refine mm_callVF (q0 := 0) (ci := 2) (rest := []) C0 lk_X2_85 (ctX2_readNumber (a := a) (d := d - 1) (by omega) hc_19) (by omega) rfl hl.1 rfl (mm_cat rfl) dX2_readOne_13 hP hD hA hS rfl rfl (fun H locs hP hD hS => ?_)
    refine W.eq (g2 := F0 m 16 ls []) rfl ?_
    refine lv_goto (tgt := 161) hx hb dX2_readOne_16 (by decide) ?_
    apply mm_sub4 hf
    exact mm_vret C0 hP hD hS dX2_readOne_161

def fX2_readOne (N : Nat) : Nat → Int32 → Int32 → Int32 → Int32 → Int32 → List Int32 → List Int32 → Option (Int32 × Int32 × Int32 × List Int32)
  | 0 => fun _ _ _ _ _ _ _ => none
  | M + 1 => fX2_readOneo N (fX2_readOne N M)
set_option maxHeartbeats 4000000 in
set_option maxRecDepth 100000 in
theorem ctX2_readOne {l : Launch} {D : va_G} {cI cL cS cH : ClassId} {N : Nat} : ∀ (M d : Nat), 2 + 6 * M ≤ d → ∀ (a : Nat → Nat) (x1 : Int32) (v_size : Int32) (v_stepCount : Int32) (v_draftCount : Int32) (v_place : Int32) (v_fault : Int32) (v_stacked : Int32) (v_tape : List Int32) (v_steps : List Int32) (v_draft : List Int32) (v_stack : List Int32) (w_draftCount : Int32) (w_place : Int32) (w_fault : Int32) (w_draft : List Int32), fX2_readOne N M x1 v_size v_draftCount v_place v_fault v_tape v_draft = some (w_draftCount, w_place, w_fault, w_draft) → mm_Ct l yX2_readOne cX2_readOne 3 none d D (mm_T cI cL cS cH) [.ref (a 0), .int x1] (wd_X2 cI cL cS cH a v_size v_stepCount v_draftCount v_place v_fault v_stacked v_tape v_steps v_draft v_stack) (wd_X2 cI cL cS cH a v_size v_stepCount w_draftCount w_place w_fault v_stacked v_tape v_steps w_draft v_stack) none := by
  intro M
  induction M with
  | zero =>
    intro d hd a x1 v_size v_stepCount v_draftCount v_place v_fault v_stacked v_tape v_steps v_draft v_stack w_draftCount w_place w_fault w_draft hf
    cases (show none = some _ from hf)
  | succ M ih =>
    intro d hd a x1 v_size v_stepCount v_draftCount v_place v_fault v_stacked v_tape v_steps v_draft v_stack w_draftCount w_place w_fault w_draft hf
    exact ctX2_readOneo (N := N) (ih (2 + 6 * M) (Nat.le_refl _)) (Nat.le_add_right _ _) (by omega) hf

theorem dX2_readLine_0 : decode cX2_readLine 0 = .ok (.aload_n 0, 1) := by decide +kernel
theorem dX2_readLine_1 : decode cX2_readLine 1 = .ok (.iconst 0, 1) := by decide +kernel
theorem dX2_readLine_2 : decode cX2_readLine 2 = .ok (.invokevirtual 56, 3) := by decide +kernel
theorem dX2_readLine_5 : decode cX2_readLine 5 = .ok (.aload_n 0, 1) := by decide +kernel
theorem dX2_readLine_6 : decode cX2_readLine 6 = .ok (.bipush 63, 2) := by decide +kernel
theorem dX2_readLine_8 : decode cX2_readLine 8 = .ok (.invokevirtual 40, 3) := by decide +kernel
theorem dX2_readLine_11 : decode cX2_readLine 11 = .ok (.ifCond .eq 24, 3) := by decide +kernel
theorem dX2_readLine_14 : decode cX2_readLine 14 = .ok (.aload_n 0, 1) := by decide +kernel
theorem dX2_readLine_15 : decode cX2_readLine 15 = .ok (.dup, 1) := by decide +kernel
theorem dX2_readLine_16 : decode cX2_readLine 16 = .ok (.getfield 28, 3) := by decide +kernel
theorem dX2_readLine_19 : decode cX2_readLine 19 = .ok (.iconst 1, 1) := by decide +kernel
theorem dX2_readLine_20 : decode cX2_readLine 20 = .ok (.iadd, 1) := by decide +kernel
theorem dX2_readLine_21 : decode cX2_readLine 21 = .ok (.putfield 28, 3) := by decide +kernel
theorem dX2_readLine_24 : decode cX2_readLine 24 = .ok (.aload_n 0, 1) := by decide +kernel
theorem dX2_readLine_25 : decode cX2_readLine 25 = .ok (.bipush 63, 2) := by decide +kernel
theorem dX2_readLine_27 : decode cX2_readLine 27 = .ok (.invokevirtual 60, 3) := by decide +kernel
theorem dX2_readLine_30 : decode cX2_readLine 30 = .ok (.aload_n 0, 1) := by decide +kernel
theorem dX2_readLine_31 : decode cX2_readLine 31 = .ok (.iconst 0, 1) := by decide +kernel
theorem dX2_readLine_32 : decode cX2_readLine 32 = .ok (.invokevirtual 56, 3) := by decide +kernel
theorem dX2_readLine_35 : decode cX2_readLine 35 = .ok (.aload_n 0, 1) := by decide +kernel
theorem dX2_readLine_36 : decode cX2_readLine 36 = .ok (.bipush 59, 2) := by decide +kernel
theorem dX2_readLine_38 : decode cX2_readLine 38 = .ok (.invokevirtual 60, 3) := by decide +kernel
theorem dX2_readLine_41 : decode cX2_readLine 41 = .ok (.return_, 1) := by decide +kernel
def fX2_readLine_35 (N : Nat)  (v_size : Int32) (v_draftCount : Int32) (v_place : Int32) (v_fault : Int32) (v_tape : List Int32) (v_draft : List Int32) : Option (Int32 × Int32 × Int32 × List Int32) :=
    mm_bd2 (fX2_note N (59 : Int32) v_draftCount v_draft) (fun (w_18 : Int32) (w_19 : List Int32) =>
    some (w_18, v_place, v_fault, w_19))

set_option maxHeartbeats 4000000 in
set_option maxRecDepth 100000 in
theorem tX2_readLine_35 {p : Program} {l : Launch} {e : Env} {s : State} {m : MethodId} {args : Array Value} {below : List Frame} {meth : Method} {c : Code} {D : va_G} {cI cL cS cH : ClassId} {A : Nat → Prop} {d : Nat} {a : Nat → Nat} (hd : 56 ≤ d) (C0 : mm_Cx p s m args meth c RX2 cX2_readLine 1 none D (mm_T cI cL cS cH) A) (hA : ∀ q, s.heap.size ≤ q → A q) {v_stepCount : Int32} {v_stacked : Int32} {v_steps : List Int32} {v_stack : List Int32} {w_draftCount : Int32} {w_place : Int32} {w_fault : Int32} {w_draft : List Int32} (N : Nat)  : ∀ (v_size : Int32) (v_draftCount : Int32) (v_place : Int32) (v_fault : Int32) (v_tape : List Int32) (v_draft : List Int32) (H : Heap) (locs : List Loc) (ls : Array Slot), fX2_readLine_35 N v_size v_draftCount v_place v_fault v_tape v_draft = some (w_draftCount, w_place, w_fault, w_draft) → va_P D mm_cl (wd_X2 cI cL cS cH a v_size v_stepCount v_draftCount v_place v_fault v_stacked v_tape v_steps v_draft v_stack) H → va_D A (wd_X2 cI cL cS cH a v_size v_stepCount v_draftCount v_place v_fault v_stacked v_tape v_steps v_draft v_stack) → va_S A s.heap H locs → lv_has ls 1 [(0, .ref (a 0))] → W p l e (mm_rr d) s m args below meth c H locs 0 0 (mm_Z below D A (wd_X2 cI cL cS cH a v_size v_stepCount w_draftCount w_place w_fault v_stacked v_tape v_steps w_draft v_stack) none args s) (F0 m 35 ls []) := by
  obtain ⟨hx, hb, hml, hown, hts, hr, hlocks, hK, hSt⟩ := id C0
  intro v_size v_draftCount v_place v_fault v_tape v_draft H locs ls hf hP hD hS hl
  unfold fX2_readLine_35 at hf
  refine lv_aload_n hx hb dX2_readLine_35 rfl (lv_at hl 0 rfl) ?_
  refine lv_bipush (v := 59) hx hb dX2_readLine_36 (by decide) ?_
  obtain ⟨w_18, w_19, hc_20, hf⟩ := mm_bd2s hf
  refine mm_callVF (q0 := 0) (ci := 2) (rest := []) C0 lk_X2_60 (ctX2_note (a := a) (d := d - 1) (by omega) hc_20) (by omega) rfl hl.1 rfl (mm_cat rfl) dX2_readLine_38 hP hD hA hS rfl rfl (fun H locs hP hD hS => ?_)
  refine W.eq (g2 := F0 m 41 ls []) rfl ?_
  apply mm_sub4 hf
  exact mm_vret C0 hP hD hS dX2_readLine_41

def fX2_readLine (N : Nat) (v_size : Int32) (v_draftCount : Int32) (v_place : Int32) (v_fault : Int32) (v_tape : List Int32) (v_draft : List Int32) : Option (Int32 × Int32 × Int32 × List Int32) :=
    mm_bd4 (fX2_readEither N (fX2_readOne N 8) (0 : Int32) v_size v_draftCount v_place v_fault v_tape v_draft) (fun (w_1 : Int32) (w_2 : Int32) (w_3 : Int32) (w_4 : List Int32) =>
    mm_bd1 (fX2_meets N (63 : Int32) v_size w_2 w_3 v_tape) (fun (r_6 : Bool) =>
    if r_6 = false then
    (fX2_readLine_35 N v_size w_1 w_2 w_3 v_tape w_4)
    else (mm_nm ((w_2 + (1 : Int32))) (fun (y_9 : Int32) =>
    mm_bd2 (fX2_note N (63 : Int32) w_1 w_4) (fun (w_10 : Int32) (w_11 : List Int32) =>
    mm_bd4 (fX2_readEither N (fX2_readOne N 8) (0 : Int32) v_size w_10 y_9 w_3 v_tape w_11) (fun (w_13 : Int32) (w_14 : Int32) (w_15 : Int32) (w_16 : List Int32) =>
    fX2_readLine_35 N v_size w_13 w_14 w_15 v_tape w_16))))))

set_option maxHeartbeats 4000000 in
set_option maxRecDepth 100000 in
theorem ctX2_readLine {l : Launch} {D : va_G} {cI cL cS cH : ClassId} {a : Nat → Nat}  {v_size : Int32} {v_stepCount : Int32} {v_draftCount : Int32} {v_place : Int32} {v_fault : Int32} {v_stacked : Int32} {v_tape : List Int32} {v_steps : List Int32} {v_draft : List Int32} {v_stack : List Int32} {w_draftCount : Int32} {w_place : Int32} {w_fault : Int32} {w_draft : List Int32} {N d : Nat} (hd : 56 ≤ d) (hf : fX2_readLine N v_size v_draftCount v_place v_fault v_tape v_draft = some (w_draftCount, w_place, w_fault, w_draft)) : mm_Ct l yX2_readLine cX2_readLine 1 none d D (mm_T cI cL cS cH) [.ref (a 0)] (wd_X2 cI cL cS cH a v_size v_stepCount v_draftCount v_place v_fault v_stacked v_tape v_steps v_draft v_stack) (wd_X2 cI cL cS cH a v_size v_stepCount w_draftCount w_place w_fault v_stacked v_tape v_steps w_draft v_stack) none := by
  refine mm_of (by decide) (Nat.le_of_ble_eq_true rfl) ?_
  intro p e s m args below meth c A H locs ls C0 hP hD hA hS hl
  have C0 : mm_Cx p s m args meth c RX2 cX2_readLine 1 none D (mm_T cI cL cS cH) A := C0
  obtain ⟨hx, hb, hml, hown, hts, hr, hlocks, hK, hSt⟩ := id C0
  have hl : lv_has ls 1 [(0, .ref (a 0))] := hl
  unfold fX2_readLine at hf
  refine lv_aload_n hx hb dX2_readLine_0 rfl (lv_at hl 0 rfl) ?_
  refine lv_iconst (v := 0) hx hb dX2_readLine_1 (by decide) ?_
  obtain ⟨w_1, w_2, w_3, w_4, hc_5, hf⟩ := mm_bd4s hf
  refine mm_callVF (q0 := 0) (ci := 2) (rest := []) C0 lk_X2_56 (ctX2_readEither (a := a) (d := d - 1) (dgo := 50) (ctX2_readOne (N := N) 8 50 (by decide)) (by decide) (by omega) hc_5) (by omega) rfl hl.1 rfl (mm_cat rfl) dX2_readLine_2 hP hD hA hS rfl rfl (fun H locs hP hD hS => ?_)
  refine W.eq (g2 := F0 m 5 ls []) rfl ?_
  refine lv_aload_n hx hb dX2_readLine_5 rfl (lv_at hl 0 rfl) ?_
  refine lv_bipush (v := 63) hx hb dX2_readLine_6 (by decide) ?_
  obtain ⟨r_6, hc_7, hf⟩ := mm_bd1s hf
  refine mm_callVF (q0 := 0) (ci := 2) (rest := []) C0 lk_X2_40 (ctX2_meets (a := a) (d := d - 1) (by omega) hc_7) (by omega) rfl hl.1 rfl (mm_cat rfl) dX2_readLine_8 hP hD hA hS rfl rfl (fun H locs hP hD hS => ?_)
  refine W.eq (g2 := F0 m 11 ls [.int (mm_b r_6)]) rfl ?_
  refine lv_if_eq (tgt := 35) hx hb dX2_readLine_11 (by decide) (fun c_8 => ?_) (fun c_8 => ?_)
  · have hf := mm_ip hf (mm_b0 c_8)
    exact tX2_readLine_35 hd C0 hA N  _ _ _ _ _ _ H locs ls hf hP hD hS (lv_sub hl [0] rfl)
  · have hf := mm_in hf (mm_b1 c_8)
    refine lv_aload_n hx hb dX2_readLine_14 rfl (lv_at hl 0 rfl) ?_
    refine lv_dup hx hb dX2_readLine_15 rfl ?_
    refine mm_get C0 hP iw_X2 0 rfl rfl 6 (by decide) fl_X2_28 rfl dX2_readLine_16 ?_
    refine lv_iconst (v := 1) hx hb dX2_readLine_19 (by decide) ?_
    refine lv_iadd hx hb dX2_readLine_20 ?_
    refine lv_topi (fun y_9 ey_9 => ?_)
    have hf := mm_nms hf ey_9
    refine mm_put C0 hP hD hS iw_X2 tyX2 tyX2_ok nmX2 0 rfl rfl 6 (by decide) fl_X2_28 rfl rfl rfl (Nat.le_of_ble_eq_true rfl) dX2_readLine_21 (w2 := (wd_X2 cI cL cS cH a v_size v_stepCount w_1 y_9 w_3 v_stacked v_tape v_steps w_4 v_stack)) rfl (fun H locs hP hD hS => ?_)
    refine lv_aload_n hx hb dX2_readLine_24 rfl (lv_at hl 0 rfl) ?_
    refine lv_bipush (v := 63) hx hb dX2_readLine_25 (by decide) ?_
    obtain ⟨w_10, w_11, hc_12, hf⟩ := mm_bd2s hf
    refine mm_callVF (q0 := 0) (ci := 2) (rest := []) C0 lk_X2_60 (ctX2_note (a := a) (d := d - 1) (by omega) hc_12) (by omega) rfl hl.1 rfl (mm_cat rfl) dX2_readLine_27 hP hD hA hS rfl rfl (fun H locs hP hD hS => ?_)
    refine W.eq (g2 := F0 m 30 ls []) rfl ?_
    refine lv_aload_n hx hb dX2_readLine_30 rfl (lv_at hl 0 rfl) ?_
    refine lv_iconst (v := 0) hx hb dX2_readLine_31 (by decide) ?_
    obtain ⟨w_13, w_14, w_15, w_16, hc_17, hf⟩ := mm_bd4s hf
    refine mm_callVF (q0 := 0) (ci := 2) (rest := []) C0 lk_X2_56 (ctX2_readEither (a := a) (d := d - 1) (dgo := 50) (ctX2_readOne (N := N) 8 50 (by decide)) (by decide) (by omega) hc_17) (by omega) rfl hl.1 rfl (mm_cat rfl) dX2_readLine_32 hP hD hA hS rfl rfl (fun H locs hP hD hS => ?_)
    refine W.eq (g2 := F0 m 35 ls []) rfl ?_
    exact tX2_readLine_35 hd C0 hA N  _ _ _ _ _ _ H locs ls hf hP hD hS (lv_sub hl [0] rfl)

