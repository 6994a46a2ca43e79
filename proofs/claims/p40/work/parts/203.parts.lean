/-! parts: X2_readTape, X2_joined, X2_pop, X2_push, X2_worth, X5_forgetLed, X5_layOut, J7_fill_53178, X5_renew -/
theorem dX2_readTape_0 : decode cX2_readTape 0 = .ok (.aload_n 0, 1) := by decide +kernel
theorem dX2_readTape_1 : decode cX2_readTape 1 = .ok (.iconst 0, 1) := by decide +kernel
theorem dX2_readTape_2 : decode cX2_readTape 2 = .ok (.putfield 28, 3) := by decide +kernel
theorem dX2_readTape_5 : decode cX2_readTape 5 = .ok (.aload_n 0, 1) := by decide +kernel
theorem dX2_readTape_6 : decode cX2_readTape 6 = .ok (.iconst (-1), 1) := by decide +kernel
theorem dX2_readTape_7 : decode cX2_readTape 7 = .ok (.putfield 31, 3) := by decide +kernel
theorem dX2_readTape_10 : decode cX2_readTape 10 = .ok (.aload_n 0, 1) := by decide +kernel
theorem dX2_readTape_11 : decode cX2_readTape 11 = .ok (.iconst 0, 1) := by decide +kernel
theorem dX2_readTape_12 : decode cX2_readTape 12 = .ok (.putfield 34, 3) := by decide +kernel
theorem dX2_readTape_15 : decode cX2_readTape 15 = .ok (.aload_n 0, 1) := by decide +kernel
theorem dX2_readTape_16 : decode cX2_readTape 16 = .ok (.invokevirtual 37, 3) := by decide +kernel
theorem dX2_readTape_19 : decode cX2_readTape 19 = .ok (.iconst 0, 1) := by decide +kernel
theorem dX2_readTape_20 : decode cX2_readTape 20 = .ok (.istore_n 1, 1) := by decide +kernel
theorem dX2_readTape_21 : decode cX2_readTape 21 = .ok (.iload_n 1, 1) := by decide +kernel
theorem dX2_readTape_22 : decode cX2_readTape 22 = .ok (.bipush 120, 2) := by decide +kernel
theorem dX2_readTape_24 : decode cX2_readTape 24 = .ok (.if_icmp .ge 32, 3) := by decide +kernel
theorem dX2_readTape_27 : decode cX2_readTape 27 = .ok (.aload_n 0, 1) := by decide +kernel
theorem dX2_readTape_28 : decode cX2_readTape 28 = .ok (.bipush 59, 2) := by decide +kernel
theorem dX2_readTape_30 : decode cX2_readTape 30 = .ok (.invokevirtual 40, 3) := by decide +kernel
theorem dX2_readTape_33 : decode cX2_readTape 33 = .ok (.ifCond .eq 23, 3) := by decide +kernel
theorem dX2_readTape_36 : decode cX2_readTape 36 = .ok (.aload_n 0, 1) := by decide +kernel
theorem dX2_readTape_37 : decode cX2_readTape 37 = .ok (.dup, 1) := by decide +kernel
theorem dX2_readTape_38 : decode cX2_readTape 38 = .ok (.getfield 28, 3) := by decide +kernel
theorem dX2_readTape_41 : decode cX2_readTape 41 = .ok (.iconst 1, 1) := by decide +kernel
theorem dX2_readTape_42 : decode cX2_readTape 42 = .ok (.iadd, 1) := by decide +kernel
theorem dX2_readTape_43 : decode cX2_readTape 43 = .ok (.putfield 28, 3) := by decide +kernel
theorem dX2_readTape_46 : decode cX2_readTape 46 = .ok (.aload_n 0, 1) := by decide +kernel
theorem dX2_readTape_47 : decode cX2_readTape 47 = .ok (.invokevirtual 37, 3) := by decide +kernel
theorem dX2_readTape_50 : decode cX2_readTape 50 = .ok (.iinc 1 1, 3) := by decide +kernel
theorem dX2_readTape_53 : decode cX2_readTape 53 = .ok (.goto (-32), 3) := by decide +kernel
theorem dX2_readTape_56 : decode cX2_readTape 56 = .ok (.aload_n 0, 1) := by decide +kernel
theorem dX2_readTape_57 : decode cX2_readTape 57 = .ok (.getfield 28, 3) := by decide +kernel
theorem dX2_readTape_60 : decode cX2_readTape 60 = .ok (.aload_n 0, 1) := by decide +kernel
theorem dX2_readTape_61 : decode cX2_readTape 61 = .ok (.getfield 24, 3) := by decide +kernel
theorem dX2_readTape_64 : decode cX2_readTape 64 = .ok (.if_icmp .ge 7, 3) := by decide +kernel
theorem dX2_readTape_67 : decode cX2_readTape 67 = .ok (.aload_n 0, 1) := by decide +kernel
theorem dX2_readTape_68 : decode cX2_readTape 68 = .ok (.invokevirtual 44, 3) := by decide +kernel
theorem dX2_readTape_71 : decode cX2_readTape 71 = .ok (.aload_n 0, 1) := by decide +kernel
theorem dX2_readTape_72 : decode cX2_readTape 72 = .ok (.iconst 0, 1) := by decide +kernel
theorem dX2_readTape_73 : decode cX2_readTape 73 = .ok (.putfield 24, 3) := by decide +kernel
theorem dX2_readTape_76 : decode cX2_readTape 76 = .ok (.aload_n 0, 1) := by decide +kernel
theorem dX2_readTape_77 : decode cX2_readTape 77 = .ok (.getfield 31, 3) := by decide +kernel
theorem dX2_readTape_80 : decode cX2_readTape 80 = .ok (.ifCond .ge 28, 3) := by decide +kernel
theorem dX2_readTape_83 : decode cX2_readTape 83 = .ok (.aload_n 0, 1) := by decide +kernel
theorem dX2_readTape_84 : decode cX2_readTape 84 = .ok (.getfield 18, 3) := by decide +kernel
theorem dX2_readTape_87 : decode cX2_readTape 87 = .ok (.iconst 0, 1) := by decide +kernel
theorem dX2_readTape_88 : decode cX2_readTape 88 = .ok (.aload_n 0, 1) := by decide +kernel
theorem dX2_readTape_89 : decode cX2_readTape 89 = .ok (.getfield 15, 3) := by decide +kernel
theorem dX2_readTape_92 : decode cX2_readTape 92 = .ok (.iconst 0, 1) := by decide +kernel
theorem dX2_readTape_93 : decode cX2_readTape 93 = .ok (.aload_n 0, 1) := by decide +kernel
theorem dX2_readTape_94 : decode cX2_readTape 94 = .ok (.getfield 34, 3) := by decide +kernel
theorem dX2_readTape_97 : decode cX2_readTape 97 = .ok (.invokestatic 47, 3) := by decide +kernel
theorem dX2_readTape_100 : decode cX2_readTape 100 = .ok (.aload_n 0, 1) := by decide +kernel
theorem dX2_readTape_101 : decode cX2_readTape 101 = .ok (.aload_n 0, 1) := by decide +kernel
theorem dX2_readTape_102 : decode cX2_readTape 102 = .ok (.getfield 34, 3) := by decide +kernel
theorem dX2_readTape_105 : decode cX2_readTape 105 = .ok (.putfield 53, 3) := by decide +kernel
theorem dX2_readTape_108 : decode cX2_readTape 108 = .ok (.aload_n 0, 1) := by decide +kernel
theorem dX2_readTape_109 : decode cX2_readTape 109 = .ok (.getfield 31, 3) := by decide +kernel
theorem dX2_readTape_112 : decode cX2_readTape 112 = .ok (.ireturn, 1) := by decide +kernel
def fX2_readTape_108 (N : Nat)  (v_size : Int32) (v_stepCount : Int32) (v_draftCount : Int32) (v_place : Int32) (v_fault : Int32) (v_tape : List Int32) (v_steps : List Int32) (v_draft : List Int32) : Option (Int32 × Int32 × Int32 × Int32 × Int32 × Int32 × List Int32 × List Int32) :=
    some (v_fault, v_size, v_stepCount, v_draftCount, v_place, v_fault, v_steps, v_draft)

set_option maxHeartbeats 4000000 in
set_option maxRecDepth 100000 in
theorem tX2_readTape_108 {p : Program} {l : Launch} {e : Env} {s : State} {m : MethodId} {args : Array Value} {below : List Frame} {meth : Method} {c : Code} {D : va_G} {cI cL cS cH : ClassId} {A : Nat → Prop} {d : Nat} {a : Nat → Nat} (hd : 57 ≤ d) (C0 : mm_Cx p s m args meth c RX2 cX2_readTape 2 (some .int) D (mm_T cI cL cS cH) A) (hA : ∀ q, s.heap.size ≤ q → A q) {v_stacked : Int32} {v_stack : List Int32} {r : Int32} {w_size : Int32} {w_stepCount : Int32} {w_draftCount : Int32} {w_place : Int32} {w_fault : Int32} {w_steps : List Int32} {w_draft : List Int32} (N : Nat)  : ∀ (v_size : Int32) (v_stepCount : Int32) (v_draftCount : Int32) (v_place : Int32) (v_fault : Int32) (v_tape : List Int32) (v_steps : List Int32) (v_draft : List Int32) (H : Heap) (locs : List Loc) (ls : Array Slot), fX2_readTape_108 N v_size v_stepCount v_draftCount v_place v_fault v_tape v_steps v_draft = some (r, w_size, w_stepCount, w_draftCount, w_place, w_fault, w_steps, w_draft) → va_P D mm_cl (wd_X2 cI cL cS cH a v_size v_stepCount v_draftCount v_place v_fault v_stacked v_tape v_steps v_draft v_stack) H → va_D A (wd_X2 cI cL cS cH a v_size v_stepCount v_draftCount v_place v_fault v_stacked v_tape v_steps v_draft v_stack) → va_S A s.heap H locs → lv_has ls 2 [(0, .ref (a 0))] → W p l e (mm_rr d) s m args below meth c H locs 0 0 (mm_Z below D A (wd_X2 cI cL cS cH a w_size w_stepCount w_draftCount w_place w_fault v_stacked v_tape w_steps w_draft v_stack) (some (.int r)) args s) (F0 m 108 ls []) := by
  obtain ⟨hx, hb, hml, hown, hts, hr, hlocks, hK, hSt⟩ := id C0
  intro v_size v_stepCount v_draftCount v_place v_fault v_tape v_steps v_draft H locs ls hf hP hD hS hl
  unfold fX2_readTape_108 at hf
  refine lv_aload_n hx hb dX2_readTape_108 rfl (lv_at hl 0 rfl) ?_
  refine mm_get C0 hP iw_X2 0 rfl rfl 7 (by decide) fl_X2_31 rfl dX2_readTape_109 ?_
  apply mm_sub8 hf
  exact mm_iret C0 hP hD hS dX2_readTape_112

def fX2_readTape_71 (N : Nat)  (v_size : Int32) (v_stepCount : Int32) (v_draftCount : Int32) (v_place : Int32) (v_fault : Int32) (v_tape : List Int32) (v_steps : List Int32) (v_draft : List Int32) : Option (Int32 × Int32 × Int32 × Int32 × Int32 × Int32 × List Int32 × List Int32) :=
    if 0 ≤ v_fault then
    (fX2_readTape_108 N (0 : Int32) v_stepCount v_draftCount v_place v_fault v_tape v_steps v_draft)
    else (mm_ck (mm_cok (0 : Int32) (0 : Int32) v_draftCount v_draft.length v_steps.length) (mm_nm (mm_cp v_draft v_steps (0 : Int32) (0 : Int32) v_draftCount) (fun (l_22 : List Int32) =>
    fX2_readTape_108 N (0 : Int32) v_draftCount v_draftCount v_place v_fault v_tape l_22 v_draft)))

set_option maxHeartbeats 4000000 in
set_option maxRecDepth 100000 in
theorem tX2_readTape_71 {p : Program} {l : Launch} {e : Env} {s : State} {m : MethodId} {args : Array Value} {below : List Frame} {meth : Method} {c : Code} {D : va_G} {cI cL cS cH : ClassId} {A : Nat → Prop} {d : Nat} {a : Nat → Nat} (hd : 57 ≤ d) (C0 : mm_Cx p s m args meth c RX2 cX2_readTape 2 (some .int) D (mm_T cI cL cS cH) A) (hA : ∀ q, s.heap.size ≤ q → A q) {v_stacked : Int32} {v_stack : List Int32} {r : Int32} {w_size : Int32} {w_stepCount : Int32} {w_draftCount : Int32} {w_place : Int32} {w_fault : Int32} {w_steps : List Int32} {w_draft : List Int32} (N : Nat)  : ∀ (v_size : Int32) (v_stepCount : Int32) (v_draftCount : Int32) (v_place : Int32) (v_fault : Int32) (v_tape : List Int32) (v_steps : List Int32) (v_draft : List Int32) (H : Heap) (locs : List Loc) (ls : Array Slot), fX2_readTape_71 N v_size v_stepCount v_draftCount v_place v_fault v_tape v_steps v_draft = some (r, w_size, w_stepCount, w_draftCount, w_place, w_fault, w_steps, w_draft) → va_P D mm_cl (wd_X2 cI cL cS cH a v_size v_stepCount v_draftCount v_place v_fault v_stacked v_tape v_steps v_draft v_stack) H → va_D A (wd_X2 cI cL cS cH a v_size v_stepCount v_draftCount v_place v_fault v_stacked v_tape v_steps v_draft v_stack) → va_S A s.heap H locs → lv_has ls 2 [(0, .ref (a 0))] → W p l e (mm_rr d) s m args below meth c H locs 0 0 (mm_Z below D A (wd_X2 cI cL cS cH a w_size w_stepCount w_draftCount w_place w_fault v_stacked v_tape w_steps w_draft v_stack) (some (.int r)) args s) (F0 m 71 ls []) := by
  obtain ⟨hx, hb, hml, hown, hts, hr, hlocks, hK, hSt⟩ := id C0
  intro v_size v_stepCount v_draftCount v_place v_fault v_tape v_steps v_draft H locs ls hf hP hD hS hl
  unfold fX2_readTape_71 at hf
  refine lv_aload_n hx hb dX2_readTape_71 rfl (lv_at hl 0 rfl) ?_
  refine lv_iconst (v := 0) hx hb dX2_readTape_72 (by decide) ?_
  refine mm_put C0 hP hD hS iw_X2 tyX2 tyX2_ok nmX2 0 rfl rfl 0 (by decide) fl_X2_24 rfl rfl rfl (Nat.le_of_ble_eq_true rfl) dX2_readTape_73 (w2 := (wd_X2 cI cL cS cH a (0 : Int32) v_stepCount v_draftCount v_place v_fault v_stacked v_tape v_steps v_draft v_stack)) rfl (fun H locs hP hD hS => ?_)
  refine lv_aload_n hx hb dX2_readTape_76 rfl (lv_at hl 0 rfl) ?_
  refine mm_get C0 hP iw_X2 0 rfl rfl 7 (by decide) fl_X2_31 rfl dX2_readTape_77 ?_
  refine lv_if_ge (tgt := 108) hx hb dX2_readTape_80 (by decide) (fun c_20 => ?_) (fun c_20 => ?_)
  · have hf := mm_ip hf c_20
    exact tX2_readTape_108 hd C0 hA N  _ _ _ _ _ _ _ _ H locs ls hf hP hD hS (lv_sub hl [0] rfl)
  · have hf := mm_in hf c_20
    refine lv_aload_n hx hb dX2_readTape_83 rfl (lv_at hl 0 rfl) ?_
    refine mm_get C0 hP iw_X2 0 rfl rfl 4 (by decide) fl_X2_18 rfl dX2_readTape_84 ?_
    refine lv_iconst (v := 0) hx hb dX2_readTape_87 (by decide) ?_
    refine lv_aload_n hx hb dX2_readTape_88 rfl (lv_at hl 0 rfl) ?_
    refine mm_get C0 hP iw_X2 0 rfl rfl 2 (by decide) fl_X2_15 rfl dX2_readTape_89 ?_
    refine lv_iconst (v := 0) hx hb dX2_readTape_92 (by decide) ?_
    refine lv_aload_n hx hb dX2_readTape_93 rfl (lv_at hl 0 rfl) ?_
    refine mm_get C0 hP iw_X2 0 rfl rfl 5 (by decide) fl_X2_34 rfl dX2_readTape_94 ?_
    obtain ⟨h_21, hf⟩ := mm_cks hf
    refine mm_copyi C0 la_X2_47 hP hD hS 3 2 rfl rfl h_21 hl.1 (by omega) (mm_cat rfl) dX2_readTape_97 (w2 := (wd_X2 cI cL cS cH a (0 : Int32) v_stepCount v_draftCount v_place v_fault v_stacked v_tape (mm_cp v_draft v_steps (0 : Int32) (0 : Int32) v_draftCount) v_draft v_stack)) rfl (fun H locs hP hD hS => ?_)
    generalize el_22 : (mm_cp v_draft v_steps (0 : Int32) (0 : Int32) v_draftCount) = l_22 at hP hD
    have hf := mm_nms hf el_22.symm
    refine lv_aload_n hx hb dX2_readTape_100 rfl (lv_at hl 0 rfl) ?_
    refine lv_aload_n hx hb dX2_readTape_101 rfl (lv_at hl 0 rfl) ?_
    refine mm_get C0 hP iw_X2 0 rfl rfl 5 (by decide) fl_X2_34 rfl dX2_readTape_102 ?_
    refine mm_put C0 hP hD hS iw_X2 tyX2 tyX2_ok nmX2 0 rfl rfl 3 (by decide) fl_X2_53 rfl rfl rfl (Nat.le_of_ble_eq_true rfl) dX2_readTape_105 (w2 := (wd_X2 cI cL cS cH a (0 : Int32) v_draftCount v_draftCount v_place v_fault v_stacked v_tape l_22 v_draft v_stack)) rfl (fun H locs hP hD hS => ?_)
    exact tX2_readTape_108 hd C0 hA N  _ _ _ _ _ _ _ _ H locs ls hf hP hD hS (lv_sub hl [0] rfl)

def fX2_readTape_56 (N : Nat)  (v_size : Int32) (v_stepCount : Int32) (v_draftCount : Int32) (v_place : Int32) (v_fault : Int32) (v_tape : List Int32) (v_steps : List Int32) (v_draft : List Int32) : Option (Int32 × Int32 × Int32 × Int32 × Int32 × Int32 × List Int32 × List Int32) :=
    if v_size ≤ v_place then
    (fX2_readTape_71 N v_size v_stepCount v_draftCount v_place v_fault v_tape v_steps v_draft)
    else (mm_bd1 (fX2_fail N v_place v_fault) (fun (w_18 : Int32) =>
    fX2_readTape_71 N v_size v_stepCount v_draftCount v_place w_18 v_tape v_steps v_draft))

set_option maxHeartbeats 4000000 in
set_option maxRecDepth 100000 in
theorem tX2_readTape_56 {p : Program} {l : Launch} {e : Env} {s : State} {m : MethodId} {args : Array Value} {below : List Frame} {meth : Method} {c : Code} {D : va_G} {cI cL cS cH : ClassId} {A : Nat → Prop} {d : Nat} {a : Nat → Nat} (hd : 57 ≤ d) (C0 : mm_Cx p s m args meth c RX2 cX2_readTape 2 (some .int) D (mm_T cI cL cS cH) A) (hA : ∀ q, s.heap.size ≤ q → A q) {v_stacked : Int32} {v_stack : List Int32} {r : Int32} {w_size : Int32} {w_stepCount : Int32} {w_draftCount : Int32} {w_place : Int32} {w_fault : Int32} {w_steps : List Int32} {w_draft : List Int32} (N : Nat)  : ∀ (v_size : Int32) (v_stepCount : Int32) (v_draftCount : Int32) (v_place : Int32) (v_fault : Int32) (v_tape : List Int32) (v_steps : List Int32) (v_draft : List Int32) (H : Heap) (locs : List Loc) (ls : Array Slot), fX2_readTape_56 N v_size v_stepCount v_draftCount v_place v_fault v_tape v_steps v_draft = some (r, w_size, w_stepCount, w_draftCount, w_place, w_fault, w_steps, w_draft) → va_P D mm_cl (wd_X2 cI cL cS cH a v_size v_stepCount v_draftCount v_place v_fault v_stacked v_tape v_steps v_draft v_stack) H → va_D A (wd_X2 cI cL cS cH a v_size v_stepCount v_draftCount v_place v_fault v_stacked v_tape v_steps v_draft v_stack) → va_S A s.heap H locs → lv_has ls 2 [(0, .ref (a 0))] → W p l e (mm_rr d) s m args below meth c H locs 0 0 (mm_Z below D A (wd_X2 cI cL cS cH a w_size w_stepCount w_draftCount w_place w_fault v_stacked v_tape w_steps w_draft v_stack) (some (.int r)) args s) (F0 m 56 ls []) := by
  obtain ⟨hx, hb, hml, hown, hts, hr, hlocks, hK, hSt⟩ := id C0
  intro v_size v_stepCount v_draftCount v_place v_fault v_tape v_steps v_draft H locs ls hf hP hD hS hl
  unfold fX2_readTape_56 at hf
  refine lv_aload_n hx hb dX2_readTape_56 rfl (lv_at hl 0 rfl) ?_
  refine mm_get C0 hP iw_X2 0 rfl rfl 6 (by decide) fl_X2_28 rfl dX2_readTape_57 ?_
  refine lv_aload_n hx hb dX2_readTape_60 rfl (lv_at hl 0 rfl) ?_
  refine mm_get C0 hP iw_X2 0 rfl rfl 0 (by decide) fl_X2_24 rfl dX2_readTape_61 ?_
  refine lv_icmp_ge (tgt := 71) hx hb dX2_readTape_64 (by decide) (fun c_17 => ?_) (fun c_17 => ?_)
  · have hf := mm_ip hf c_17
    exact tX2_readTape_71 hd C0 hA N  _ _ _ _ _ _ _ _ H locs ls hf hP hD hS (lv_sub hl [0] rfl)
  · have hf := mm_in hf c_17
    refine lv_aload_n hx hb dX2_readTape_67 rfl (lv_at hl 0 rfl) ?_
    obtain ⟨w_18, hc_19, hf⟩ := mm_bd1s hf
    refine mm_callVF (q0 := 0) (ci := 2) (rest := []) C0 lk_X2_44 (ctX2_fail (a := a) (d := d - 1) (by omega) hc_19) (by omega) rfl hl.1 rfl (mm_cat rfl) dX2_readTape_68 hP hD hA hS rfl rfl (fun H locs hP hD hS => ?_)
    refine W.eq (g2 := F0 m 71 ls []) rfl ?_
    exact tX2_readTape_71 hd C0 hA N  _ _ _ _ _ _ _ _ H locs ls hf hP hD hS (lv_sub hl [0] rfl)

def fX2_readTape_21 (N : Nat)  : Nat → Int32 → Int32 → Int32 → Int32 → Int32 → Int32 → List Int32 → List Int32 → List Int32 → Option (Int32 × Int32 × Int32 × Int32 × Int32 × Int32 × List Int32 × List Int32)
  | 0 => fun _ _ _ _ _ _ _ _ _ => none
  | n + 1 => fun x1 v_size v_stepCount v_draftCount v_place v_fault v_tape v_steps v_draft =>
    if (120 : Int32) ≤ x1 then
    (fX2_readTape_56 N v_size v_stepCount v_draftCount v_place v_fault v_tape v_steps v_draft)
    else (mm_bd1 (fX2_meets N (59 : Int32) v_size v_place v_fault v_tape) (fun (r_7 : Bool) =>
    if r_7 = false then
    (fX2_readTape_56 N v_size v_stepCount v_draftCount v_place v_fault v_tape v_steps v_draft)
    else (mm_nm ((v_place + (1 : Int32))) (fun (y_10 : Int32) =>
    mm_bd4 (fX2_readLine N v_size v_draftCount y_10 v_fault v_tape v_draft) (fun (w_11 : Int32) (w_12 : Int32) (w_13 : Int32) (w_14 : List Int32) =>
    mm_nm (x1 + (1 : Int32)) (fun (y_16 : Int32) =>
    fX2_readTape_21 N n y_16 v_size v_stepCount w_11 w_12 w_13 v_tape v_steps w_14))))))

set_option maxHeartbeats 4000000 in
set_option maxRecDepth 100000 in
theorem tX2_readTape_21 {p : Program} {l : Launch} {e : Env} {s : State} {m : MethodId} {args : Array Value} {below : List Frame} {meth : Method} {c : Code} {D : va_G} {cI cL cS cH : ClassId} {A : Nat → Prop} {d : Nat} {a : Nat → Nat} (hd : 57 ≤ d) (C0 : mm_Cx p s m args meth c RX2 cX2_readTape 2 (some .int) D (mm_T cI cL cS cH) A) (hA : ∀ q, s.heap.size ≤ q → A q) {v_stacked : Int32} {v_stack : List Int32} {r : Int32} {w_size : Int32} {w_stepCount : Int32} {w_draftCount : Int32} {w_place : Int32} {w_fault : Int32} {w_steps : List Int32} {w_draft : List Int32} (N : Nat)  : ∀ (n : Nat), ∀ (x1 : Int32) (v_size : Int32) (v_stepCount : Int32) (v_draftCount : Int32) (v_place : Int32) (v_fault : Int32) (v_tape : List Int32) (v_steps : List Int32) (v_draft : List Int32) (H : Heap) (locs : List Loc) (ls : Array Slot), fX2_readTape_21 N n x1 v_size v_stepCount v_draftCount v_place v_fault v_tape v_steps v_draft = some (r, w_size, w_stepCount, w_draftCount, w_place, w_fault, w_steps, w_draft) → va_P D mm_cl (wd_X2 cI cL cS cH a v_size v_stepCount v_draftCount v_place v_fault v_stacked v_tape v_steps v_draft v_stack) H → va_D A (wd_X2 cI cL cS cH a v_size v_stepCount v_draftCount v_place v_fault v_stacked v_tape v_steps v_draft v_stack) → va_S A s.heap H locs → lv_has ls 2 [(0, .ref (a 0)), (1, .int x1)] → W p l e (mm_rr d) s m args below meth c H locs 0 0 (mm_Z below D A (wd_X2 cI cL cS cH a w_size w_stepCount w_draftCount w_place w_fault v_stacked v_tape w_steps w_draft v_stack) (some (.int r)) args s) (F0 m 21 ls []) := by
  obtain ⟨hx, hb, hml, hown, hts, hr, hlocks, hK, hSt⟩ := id C0
  intro n
  induction n with
  | zero =>
    intro x1 v_size v_stepCount v_draftCount v_place v_fault v_tape v_steps v_draft H locs ls hf
    cases (show none = some _ from hf)
  | succ n ih =>
    intro x1 v_size v_stepCount v_draftCount v_place v_fault v_tape v_steps v_draft H locs ls hf hP hD hS hl
    unfold fX2_readTape_21 at hf
    refine lv_iload_n hx hb dX2_readTape_21 rfl (lv_at hl 1 rfl) ?_
    refine lv_bipush (v := 120) hx hb dX2_readTape_22 (by decide) ?_
    refine lv_icmp_ge (tgt := 56) hx hb dX2_readTape_24 (by decide) (fun c_6 => ?_) (fun c_6 => ?_)
    · have hf := mm_ip hf c_6
      exact tX2_readTape_56 hd C0 hA N  _ _ _ _ _ _ _ _ H locs ls hf hP hD hS (lv_sub hl [0] rfl)
    · have hf := mm_in hf c_6
      refine lv_aload_n hx hb dX2_readTape_27 rfl (lv_at hl 0 rfl) ?_
      refine lv_bipush (v := 59) hx hb dX2_readTape_28 (by decide) ?_
      obtain ⟨r_7, hc_8, hf⟩ := mm_bd1s hf
      refine mm_callVF (q0 := 0) (ci := 2) (rest := []) C0 lk_X2_40 (ctX2_meets (a := a) (d := d - 1) (by omega) hc_8) (by omega) rfl hl.1 rfl (mm_cat rfl) dX2_readTape_30 hP hD hA hS rfl rfl (fun H locs hP hD hS => ?_)
      refine W.eq (g2 := F0 m 33 ls [.int (mm_b r_7)]) rfl ?_
      refine lv_if_eq (tgt := 56) hx hb dX2_readTape_33 (by decide) (fun c_9 => ?_) (fun c_9 => ?_)
      · have hf := mm_ip hf (mm_b0 c_9)
        exact tX2_readTape_56 hd C0 hA N  _ _ _ _ _ _ _ _ H locs ls hf hP hD hS (lv_sub hl [0] rfl)
      · have hf := mm_in hf (mm_b1 c_9)
        refine lv_aload_n hx hb dX2_readTape_36 rfl (lv_at hl 0 rfl) ?_
        refine lv_dup hx hb dX2_readTape_37 rfl ?_
        refine mm_get C0 hP iw_X2 0 rfl rfl 6 (by decide) fl_X2_28 rfl dX2_readTape_38 ?_
        refine lv_iconst (v := 1) hx hb dX2_readTape_41 (by decide) ?_
        refine lv_iadd hx hb dX2_readTape_42 ?_
        refine lv_topi (fun y_10 ey_10 => ?_)
        have hf := mm_nms hf ey_10
        refine mm_put C0 hP hD hS iw_X2 tyX2 tyX2_ok nmX2 0 rfl rfl 6 (by decide) fl_X2_28 rfl rfl rfl (Nat.le_of_ble_eq_true rfl) dX2_readTape_43 (w2 := (wd_X2 cI cL cS cH a v_size v_stepCount v_draftCount y_10 v_fault v_stacked v_tape v_steps v_draft v_stack)) rfl (fun H locs hP hD hS => ?_)
        refine lv_aload_n hx hb dX2_readTape_46 rfl (lv_at hl 0 rfl) ?_
        obtain ⟨w_11, w_12, w_13, w_14, hc_15, hf⟩ := mm_bd4s hf
        refine mm_callVF (q0 := 0) (ci := 2) (rest := []) C0 lk_X2_37 (ctX2_readLine (a := a) (d := d - 1) (by omega) hc_15) (by omega) rfl hl.1 rfl (mm_cat rfl) dX2_readTape_47 hP hD hA hS rfl rfl (fun H locs hP hD hS => ?_)
        refine W.eq (g2 := F0 m 50 ls []) rfl ?_
        obtain ⟨y_16, ey_16⟩ : ∃ z : Int32, z = x1 + (1 : Int32) := ⟨_, rfl⟩
        have hf := mm_nms hf ey_16
        refine lv_iinc (v := y_16) (lv' := [(1, .int y_16), (0, .ref (a 0))]) hx hb dX2_readTape_50 hl (k := 1) rfl (by rw [ey_16]; rfl) (by decide) rfl (fun ls hl => ?_)
        refine lv_goto (tgt := 21) hx hb dX2_readTape_53 (by decide) ?_
        exact ih _ _ _ _ _ _ _ _ _ H locs ls hf hP hD hS (lv_sub hl [1, 0] rfl)

def fX2_readTape (N : Nat) (v_size : Int32) (v_stepCount : Int32) (v_draftCount : Int32) (v_place : Int32) (v_fault : Int32) (v_tape : List Int32) (v_steps : List Int32) (v_draft : List Int32) : Option (Int32 × Int32 × Int32 × Int32 × Int32 × Int32 × List Int32 × List Int32) :=
    mm_bd4 (fX2_readLine N v_size (0 : Int32) (0 : Int32) (-1 : Int32) v_tape v_draft) (fun (w_1 : Int32) (w_2 : Int32) (w_3 : Int32) (w_4 : List Int32) =>
    fX2_readTape_21 N N (0 : Int32) v_size v_stepCount w_1 w_2 w_3 v_tape v_steps w_4)

set_option maxHeartbeats 4000000 in
set_option maxRecDepth 100000 in
theorem ctX2_readTape {l : Launch} {D : va_G} {cI cL cS cH : ClassId} {a : Nat → Nat}  {v_size : Int32} {v_stepCount : Int32} {v_draftCount : Int32} {v_place : Int32} {v_fault : Int32} {v_stacked : Int32} {v_tape : List Int32} {v_steps : List Int32} {v_draft : List Int32} {v_stack : List Int32} {r : Int32} {w_size : Int32} {w_stepCount : Int32} {w_draftCount : Int32} {w_place : Int32} {w_fault : Int32} {w_steps : List Int32} {w_draft : List Int32} {N d : Nat} (hd : 57 ≤ d) (hf : fX2_readTape N v_size v_stepCount v_draftCount v_place v_fault v_tape v_steps v_draft = some (r, w_size, w_stepCount, w_draftCount, w_place, w_fault, w_steps, w_draft)) : mm_Ct l yX2_readTape cX2_readTape 2 (some .int) d D (mm_T cI cL cS cH) [.ref (a 0)] (wd_X2 cI cL cS cH a v_size v_stepCount v_draftCount v_place v_fault v_stacked v_tape v_steps v_draft v_stack) (wd_X2 cI cL cS cH a w_size w_stepCount w_draftCount w_place w_fault v_stacked v_tape w_steps w_draft v_stack) (some (.int r)) := by
  refine mm_of (by decide) (Nat.le_of_ble_eq_true rfl) ?_
  intro p e s m args below meth c A H locs ls C0 hP hD hA hS hl
  have C0 : mm_Cx p s m args meth c RX2 cX2_readTape 2 (some .int) D (mm_T cI cL cS cH) A := C0
  obtain ⟨hx, hb, hml, hown, hts, hr, hlocks, hK, hSt⟩ := id C0
  have hl : lv_has ls 2 [(0, .ref (a 0))] := hl
  unfold fX2_readTape at hf
  refine lv_aload_n hx hb dX2_readTape_0 rfl (lv_at hl 0 rfl) ?_
  refine lv_iconst (v := 0) hx hb dX2_readTape_1 (by decide) ?_
  refine mm_put C0 hP hD hS iw_X2 tyX2 tyX2_ok nmX2 0 rfl rfl 6 (by decide) fl_X2_28 rfl rfl rfl (Nat.le_of_ble_eq_true rfl) dX2_readTape_2 (w2 := (wd_X2 cI cL cS cH a v_size v_stepCount v_draftCount (0 : Int32) v_fault v_stacked v_tape v_steps v_draft v_stack)) rfl (fun H locs hP hD hS => ?_)
  refine lv_aload_n hx hb dX2_readTape_5 rfl (lv_at hl 0 rfl) ?_
  refine lv_iconst (v := -1) hx hb dX2_readTape_6 (by decide) ?_
  refine mm_put C0 hP hD hS iw_X2 tyX2 tyX2_ok nmX2 0 rfl rfl 7 (by decide) fl_X2_31 rfl rfl rfl (Nat.le_of_ble_eq_true rfl) dX2_readTape_7 (w2 := (wd_X2 cI cL cS cH a v_size v_stepCount v_draftCount (0 : Int32) (-1 : Int32) v_stacked v_tape v_steps v_draft v_stack)) rfl (fun H locs hP hD hS => ?_)
  refine lv_aload_n hx hb dX2_readTape_10 rfl (lv_at hl 0 rfl) ?_
  refine lv_iconst (v := 0) hx hb dX2_readTape_11 (by decide) ?_
  refine mm_put C0 hP hD hS iw_X2 tyX2 tyX2_ok nmX2 0 rfl rfl 5 (by decide) fl_X2_34 rfl rfl rfl (Nat.le_of_ble_eq_true rfl) dX2_readTape_12 (w2 := (wd_X2 cI cL cS cH a v_size v_stepCount (0 : Int32) (0 : Int32) (-1 : Int32) v_stacked v_tape v_steps v_draft v_stack)) rfl (fun H locs hP hD hS => ?_)
  refine lv_aload_n hx hb dX2_readTape_15 rfl (lv_at hl 0 rfl) ?_
  obtain ⟨w_1, w_2, w_3, w_4, hc_5, hf⟩ := mm_bd4s hf
  refine mm_callVF (q0 := 0) (ci := 2) (rest := []) C0 lk_X2_37 (ctX2_readLine (a := a) (d := d - 1) (by omega) hc_5) (by omega) rfl hl.1 rfl (mm_cat rfl) dX2_readTape_16 hP hD hA hS rfl rfl (fun H locs hP hD hS => ?_)
  refine W.eq (g2 := F0 m 19 ls []) rfl ?_
  refine lv_iconst (v := 0) hx hb dX2_readTape_19 (by decide) ?_
  refine lv_istore_n (lv' := [(1, .int (0 : Int32)), (0, .ref (a 0))]) hx hb dX2_readTape_20 rfl hl (by decide) rfl (fun ls hl => ?_)
  exact tX2_readTape_21 hd C0 hA N  N _ _ _ _ _ _ _ _ _ H locs ls hf hP hD hS (lv_sub hl [1, 0] rfl)

theorem dX2_joined_0 : decode cX2_joined 0 = .ok (.iload_n 0, 1) := by decide +kernel
theorem dX2_joined_1 : decode cX2_joined 1 = .ok (.lookupswitch 188 #[(37, 176), (38, 105), (42, 160), (43, 152), (45, 156), (47, 164), (60, 119), (61, 130), (62, 141), (124, 91)], 91) := by decide +kernel
theorem dX2_joined_92 : decode cX2_joined 92 = .ok (.iload_n 1, 1) := by decide +kernel
theorem dX2_joined_93 : decode cX2_joined 93 = .ok (.ifCond .ne 7, 3) := by decide +kernel
theorem dX2_joined_96 : decode cX2_joined 96 = .ok (.iload_n 2, 1) := by decide +kernel
theorem dX2_joined_97 : decode cX2_joined 97 = .ok (.ifCond .eq 7, 3) := by decide +kernel
theorem dX2_joined_100 : decode cX2_joined 100 = .ok (.iconst 1, 1) := by decide +kernel
theorem dX2_joined_101 : decode cX2_joined 101 = .ok (.goto 4, 3) := by decide +kernel
theorem dX2_joined_104 : decode cX2_joined 104 = .ok (.iconst 0, 1) := by decide +kernel
theorem dX2_joined_105 : decode cX2_joined 105 = .ok (.ireturn, 1) := by decide +kernel
theorem dX2_joined_106 : decode cX2_joined 106 = .ok (.iload_n 1, 1) := by decide +kernel
theorem dX2_joined_107 : decode cX2_joined 107 = .ok (.ifCond .eq 11, 3) := by decide +kernel
theorem dX2_joined_110 : decode cX2_joined 110 = .ok (.iload_n 2, 1) := by decide +kernel
theorem dX2_joined_111 : decode cX2_joined 111 = .ok (.ifCond .eq 7, 3) := by decide +kernel
theorem dX2_joined_114 : decode cX2_joined 114 = .ok (.iconst 1, 1) := by decide +kernel
theorem dX2_joined_115 : decode cX2_joined 115 = .ok (.goto 4, 3) := by decide +kernel
theorem dX2_joined_118 : decode cX2_joined 118 = .ok (.iconst 0, 1) := by decide +kernel
theorem dX2_joined_119 : decode cX2_joined 119 = .ok (.ireturn, 1) := by decide +kernel
theorem dX2_joined_120 : decode cX2_joined 120 = .ok (.iload_n 1, 1) := by decide +kernel
theorem dX2_joined_121 : decode cX2_joined 121 = .ok (.iload_n 2, 1) := by decide +kernel
theorem dX2_joined_122 : decode cX2_joined 122 = .ok (.if_icmp .ge 7, 3) := by decide +kernel
theorem dX2_joined_125 : decode cX2_joined 125 = .ok (.iconst 1, 1) := by decide +kernel
theorem dX2_joined_126 : decode cX2_joined 126 = .ok (.goto 4, 3) := by decide +kernel
theorem dX2_joined_129 : decode cX2_joined 129 = .ok (.iconst 0, 1) := by decide +kernel
theorem dX2_joined_130 : decode cX2_joined 130 = .ok (.ireturn, 1) := by decide +kernel
theorem dX2_joined_131 : decode cX2_joined 131 = .ok (.iload_n 1, 1) := by decide +kernel
theorem dX2_joined_132 : decode cX2_joined 132 = .ok (.iload_n 2, 1) := by decide +kernel
theorem dX2_joined_133 : decode cX2_joined 133 = .ok (.if_icmp .ne 7, 3) := by decide +kernel
theorem dX2_joined_136 : decode cX2_joined 136 = .ok (.iconst 1, 1) := by decide +kernel
theorem dX2_joined_137 : decode cX2_joined 137 = .ok (.goto 4, 3) := by decide +kernel
theorem dX2_joined_140 : decode cX2_joined 140 = .ok (.iconst 0, 1) := by decide +kernel
theorem dX2_joined_141 : decode cX2_joined 141 = .ok (.ireturn, 1) := by decide +kernel
theorem dX2_joined_142 : decode cX2_joined 142 = .ok (.iload_n 1, 1) := by decide +kernel
theorem dX2_joined_143 : decode cX2_joined 143 = .ok (.iload_n 2, 1) := by decide +kernel
theorem dX2_joined_144 : decode cX2_joined 144 = .ok (.if_icmp .le 7, 3) := by decide +kernel
theorem dX2_joined_147 : decode cX2_joined 147 = .ok (.iconst 1, 1) := by decide +kernel
theorem dX2_joined_148 : decode cX2_joined 148 = .ok (.goto 4, 3) := by decide +kernel
theorem dX2_joined_151 : decode cX2_joined 151 = .ok (.iconst 0, 1) := by decide +kernel
theorem dX2_joined_152 : decode cX2_joined 152 = .ok (.ireturn, 1) := by decide +kernel
theorem dX2_joined_153 : decode cX2_joined 153 = .ok (.iload_n 1, 1) := by decide +kernel
theorem dX2_joined_154 : decode cX2_joined 154 = .ok (.iload_n 2, 1) := by decide +kernel
theorem dX2_joined_155 : decode cX2_joined 155 = .ok (.iadd, 1) := by decide +kernel
theorem dX2_joined_156 : decode cX2_joined 156 = .ok (.ireturn, 1) := by decide +kernel
theorem dX2_joined_157 : decode cX2_joined 157 = .ok (.iload_n 1, 1) := by decide +kernel
theorem dX2_joined_158 : decode cX2_joined 158 = .ok (.iload_n 2, 1) := by decide +kernel
theorem dX2_joined_159 : decode cX2_joined 159 = .ok (.isub, 1) := by decide +kernel
theorem dX2_joined_160 : decode cX2_joined 160 = .ok (.ireturn, 1) := by decide +kernel
theorem dX2_joined_161 : decode cX2_joined 161 = .ok (.iload_n 1, 1) := by decide +kernel
theorem dX2_joined_162 : decode cX2_joined 162 = .ok (.iload_n 2, 1) := by decide +kernel
theorem dX2_joined_163 : decode cX2_joined 163 = .ok (.imul, 1) := by decide +kernel
theorem dX2_joined_164 : decode cX2_joined 164 = .ok (.ireturn, 1) := by decide +kernel
theorem dX2_joined_165 : decode cX2_joined 165 = .ok (.iload_n 2, 1) := by decide +kernel
theorem dX2_joined_166 : decode cX2_joined 166 = .ok (.ifCond .ne 7, 3) := by decide +kernel
theorem dX2_joined_169 : decode cX2_joined 169 = .ok (.iconst 0, 1) := by decide +kernel
theorem dX2_joined_170 : decode cX2_joined 170 = .ok (.goto 6, 3) := by decide +kernel
theorem dX2_joined_173 : decode cX2_joined 173 = .ok (.iload_n 1, 1) := by decide +kernel
theorem dX2_joined_174 : decode cX2_joined 174 = .ok (.iload_n 2, 1) := by decide +kernel
theorem dX2_joined_175 : decode cX2_joined 175 = .ok (.idiv, 1) := by decide +kernel
theorem dX2_joined_176 : decode cX2_joined 176 = .ok (.ireturn, 1) := by decide +kernel
theorem dX2_joined_177 : decode cX2_joined 177 = .ok (.iload_n 2, 1) := by decide +kernel
theorem dX2_joined_178 : decode cX2_joined 178 = .ok (.ifCond .ne 7, 3) := by decide +kernel
theorem dX2_joined_181 : decode cX2_joined 181 = .ok (.iconst 0, 1) := by decide +kernel
theorem dX2_joined_182 : decode cX2_joined 182 = .ok (.goto 6, 3) := by decide +kernel
theorem dX2_joined_185 : decode cX2_joined 185 = .ok (.iload_n 1, 1) := by decide +kernel
theorem dX2_joined_186 : decode cX2_joined 186 = .ok (.iload_n 2, 1) := by decide +kernel
theorem dX2_joined_187 : decode cX2_joined 187 = .ok (.irem, 1) := by decide +kernel
theorem dX2_joined_188 : decode cX2_joined 188 = .ok (.ireturn, 1) := by decide +kernel
theorem dX2_joined_189 : decode cX2_joined 189 = .ok (.iconst 0, 1) := by decide +kernel
theorem dX2_joined_190 : decode cX2_joined 190 = .ok (.ireturn, 1) := by decide +kernel
def fX2_joined (N : Nat) (x0 : Int32) (x1 : Int32) (x2 : Int32) : Option (Int32) :=
    if x0 = (37 : Int32) then
    (if x2 = 0 then
    (some ((0 : Int32)))
    else (mm_ck (mm_nz x2) (some ((mm_rem x1 x2)))))
    else (if x0 = (38 : Int32) then
    (if x1 = 0 then
    (some ((0 : Int32)))
    else (if x2 = 0 then
    (some ((0 : Int32)))
    else (some ((1 : Int32)))))
    else (if x0 = (42 : Int32) then
    (some ((x1 * x2)))
    else (if x0 = (43 : Int32) then
    (some ((x1 + x2)))
    else (if x0 = (45 : Int32) then
    (some ((x1 - x2)))
    else (if x0 = (47 : Int32) then
    (if x2 = 0 then
    (some ((0 : Int32)))
    else (mm_ck (mm_nz x2) (some ((x1 / x2)))))
    else (if x0 = (60 : Int32) then
    (if x2 ≤ x1 then
    (some ((0 : Int32)))
    else (some ((1 : Int32))))
    else (if x0 = (61 : Int32) then
    (if x1 = x2 then
    (some ((1 : Int32)))
    else (some ((0 : Int32))))
    else (if x0 = (62 : Int32) then
    (if x1 ≤ x2 then
    (some ((0 : Int32)))
    else (some ((1 : Int32))))
    else (if x0 = (124 : Int32) then
    (if x1 = 0 then
    (if x2 = 0 then
    (some ((0 : Int32)))
    else (some ((1 : Int32))))
    else (some ((1 : Int32))))
    else (some ((0 : Int32))))))))))))

set_option maxHeartbeats 4000000 in
set_option maxRecDepth 100000 in
theorem ctX2_joined {l : Launch} {D : va_G} {cI cL cS cH : ClassId} {x0 : Int32} {x1 : Int32} {x2 : Int32}  {r : Int32} {N d : Nat} (hd : 1 ≤ d) (hf : fX2_joined N x0 x1 x2 = some r) : mm_Ct l yX2_joined cX2_joined 3 (some .int) d D (mm_T cI cL cS cH) [.int x0, .int x1, .int x2] ([] : va_W) ([] : va_W) (some (.int r)) := by
  refine mm_of (by decide) (Nat.le_of_ble_eq_true rfl) ?_
  intro p e s m args below meth c A H locs ls C0 hP hD hA hS hl
  have C0 : mm_Cx p s m args meth c RX2 cX2_joined 3 (some .int) D (mm_T cI cL cS cH) A := C0
  obtain ⟨hx, hb, hml, hown, hts, hr, hlocks, hK, hSt⟩ := id C0
  have hl : lv_has ls 3 [(0, .int x0), (1, .int x1), (2, .int x2)] := hl
  unfold fX2_joined at hf
  refine lv_iload_n hx hb dX2_joined_0 rfl (lv_at hl 0 rfl) ?_
  by_cases c_1 : x0 = (37 : Int32)
  · have hf := mm_ip hf c_1
    refine lv_lookup (off := 176) (tgt := 177) hx hb dX2_joined_1 (by decide) (by rw [c_1]; first | done | rfl | decide) (by decide) ?_
    refine lv_iload_n hx hb dX2_joined_177 rfl (lv_at hl 2 rfl) ?_
    refine lv_if_ne (tgt := 185) hx hb dX2_joined_178 (by decide) (fun c_2 => ?_) (fun c_2 => ?_)
    · have hf := mm_in hf c_2
      refine lv_iload_n hx hb dX2_joined_185 rfl (lv_at hl 1 rfl) ?_
      refine lv_iload_n hx hb dX2_joined_186 rfl (lv_at hl 2 rfl) ?_
      obtain ⟨h_3, hf⟩ := mm_cks hf
      refine lv_irem hx hb dX2_joined_187 (mm_nzs h_3) ?_
      obtain rfl := mm_inj1 hf
      exact mm_iret C0 hP hD hS dX2_joined_188
    · have hf := mm_ip hf c_2
      refine lv_iconst (v := 0) hx hb dX2_joined_181 (by decide) ?_
      refine lv_goto (tgt := 188) hx hb dX2_joined_182 (by decide) ?_
      obtain rfl := mm_inj1 hf
      exact mm_iret C0 hP hD hS dX2_joined_188
  · have hf := mm_in hf c_1
    by_cases c_4 : x0 = (38 : Int32)
    · have hf := mm_ip hf c_4
      refine lv_lookup (off := 105) (tgt := 106) hx hb dX2_joined_1 (by decide) (by rw [c_4]; first | done | rfl | decide) (by decide) ?_
      refine lv_iload_n hx hb dX2_joined_106 rfl (lv_at hl 1 rfl) ?_
      refine lv_if_eq (tgt := 118) hx hb dX2_joined_107 (by decide) (fun c_5 => ?_) (fun c_5 => ?_)
      · have hf := mm_ip hf c_5
        refine lv_iconst (v := 0) hx hb dX2_joined_118 (by decide) ?_
        obtain rfl := mm_inj1 hf
        exact mm_iret C0 hP hD hS dX2_joined_119
      · have hf := mm_in hf c_5
        refine lv_iload_n hx hb dX2_joined_110 rfl (lv_at hl 2 rfl) ?_
        refine lv_if_eq (tgt := 118) hx hb dX2_joined_111 (by decide) (fun c_6 => ?_) (fun c_6 => ?_)
        · have hf := mm_ip hf c_6
          refine lv_iconst (v := 0) hx hb dX2_joined_118 (by decide) ?_
          obtain rfl := mm_inj1 hf
          exact mm_iret C0 hP hD hS dX2_joined_119
        · have hf := mm_in hf c_6
          refine lv_iconst (v := 1) hx hb dX2_joined_114 (by decide) ?_
          refine lv_goto (tgt := 119) hx hb dX2_joined_115 (by decide) ?_
          obtain rfl := mm_inj1 hf
          exact mm_iret C0 hP hD hS dX2_joined_119
    · have hf := mm_in hf c_4
      by_cases c_7 : x0 = (42 : Int32)
      · have hf := mm_ip hf c_7
        refine lv_lookup (off := 160) (tgt := 161) hx hb dX2_joined_1 (by decide) (by rw [c_7]; first | done | rfl | decide) (by decide) ?_
        refine lv_iload_n hx hb dX2_joined_161 rfl (lv_at hl 1 rfl) ?_
        refine lv_iload_n hx hb dX2_joined_162 rfl (lv_at hl 2 rfl) ?_
        refine lv_imul hx hb dX2_joined_163 ?_
        obtain rfl := mm_inj1 hf
        exact mm_iret C0 hP hD hS dX2_joined_164
      · have hf := mm_in hf c_7
        by_cases c_8 : x0 = (43 : Int32)
        · have hf := mm_ip hf c_8
          refine lv_lookup (off := 152) (tgt := 153) hx hb dX2_joined_1 (by decide) (by rw [c_8]; first | done | rfl | decide) (by decide) ?_
          refine lv_iload_n hx hb dX2_joined_153 rfl (lv_at hl 1 rfl) ?_
          refine lv_iload_n hx hb dX2_joined_154 rfl (lv_at hl 2 rfl) ?_
          refine lv_iadd hx hb dX2_joined_155 ?_
          obtain rfl := mm_inj1 hf
          exact mm_iret C0 hP hD hS dX2_joined_156
        · have hf := mm_in hf c_8
          by_cases c_9 : x0 = (45 : Int32)
          · have hf := mm_ip hf c_9
            refine lv_lookup (off := 156) (tgt := 157) hx hb dX2_joined_1 (by decide) (by rw [c_9]; first | done | rfl | decide) (by decide) ?_
            refine lv_iload_n hx hb dX2_joined_157 rfl (lv_at hl 1 rfl) ?_
            refine lv_iload_n hx hb dX2_joined_158 rfl (lv_at hl 2 rfl) ?_
            refine lv_isub hx hb dX2_joined_159 ?_
            obtain rfl := mm_inj1 hf
            exact mm_iret C0 hP hD hS dX2_joined_160
          · have hf := mm_in hf c_9
            by_cases c_10 : x0 = (47 : Int32)
            · have hf := mm_ip hf c_10
              refine lv_lookup (off := 164) (tgt := 165) hx hb dX2_joined_1 (by decide) (by rw [c_10]; first | done | rfl | decide) (by decide) ?_
              refine lv_iload_n hx hb dX2_joined_165 rfl (lv_at hl 2 rfl) ?_
              refine lv_if_ne (tgt := 173) hx hb dX2_joined_166 (by decide) (fun c_11 => ?_) (fun c_11 => ?_)
              · have hf := mm_in hf c_11
                refine lv_iload_n hx hb dX2_joined_173 rfl (lv_at hl 1 rfl) ?_
                refine lv_iload_n hx hb dX2_joined_174 rfl (lv_at hl 2 rfl) ?_
                obtain ⟨h_12, hf⟩ := mm_cks hf
                refine lv_idiv hx hb dX2_joined_175 (mm_nzs h_12) ?_
                obtain rfl := mm_inj1 hf
                exact mm_iret C0 hP hD hS dX2_joined_176
              · have hf := mm_ip hf c_11
                refine lv_iconst (v := 0) hx hb dX2_joined_169 (by decide) ?_
                refine lv_goto (tgt := 176) hx hb dX2_joined_170 (by decide) ?_
                obtain rfl := mm_inj1 hf
                exact mm_iret C0 hP hD hS dX2_joined_176
            · have hf := mm_in hf c_10
              by_cases c_13 : x0 = (60 : Int32)
              · have hf := mm_ip hf c_13
                refine lv_lookup (off := 119) (tgt := 120) hx hb dX2_joined_1 (by decide) (by rw [c_13]; first | done | rfl | decide) (by decide) ?_
                refine lv_iload_n hx hb dX2_joined_120 rfl (lv_at hl 1 rfl) ?_
                refine lv_iload_n hx hb dX2_joined_121 rfl (lv_at hl 2 rfl) ?_
                refine lv_icmp_ge (tgt := 129) hx hb dX2_joined_122 (by decide) (fun c_14 => ?_) (fun c_14 => ?_)
                · have hf := mm_ip hf c_14
                  refine lv_iconst (v := 0) hx hb dX2_joined_129 (by decide) ?_
                  obtain rfl := mm_inj1 hf
                  exact mm_iret C0 hP hD hS dX2_joined_130
                · have hf := mm_in hf c_14
                  refine lv_iconst (v := 1) hx hb dX2_joined_125 (by decide) ?_
                  refine lv_goto (tgt := 130) hx hb dX2_joined_126 (by decide) ?_
                  obtain rfl := mm_inj1 hf
                  exact mm_iret C0 hP hD hS dX2_joined_130
              · have hf := mm_in hf c_13
                by_cases c_15 : x0 = (61 : Int32)
                · have hf := mm_ip hf c_15
                  refine lv_lookup (off := 130) (tgt := 131) hx hb dX2_joined_1 (by decide) (by rw [c_15]; first | done | rfl | decide) (by decide) ?_
                  refine lv_iload_n hx hb dX2_joined_131 rfl (lv_at hl 1 rfl) ?_
                  refine lv_iload_n hx hb dX2_joined_132 rfl (lv_at hl 2 rfl) ?_
                  refine lv_icmp_ne (tgt := 140) hx hb dX2_joined_133 (by decide) (fun c_16 => ?_) (fun c_16 => ?_)
                  · have hf := mm_in hf c_16
                    refine lv_iconst (v := 0) hx hb dX2_joined_140 (by decide) ?_
                    obtain rfl := mm_inj1 hf
                    exact mm_iret C0 hP hD hS dX2_joined_141
                  · have hf := mm_ip hf c_16
                    refine lv_iconst (v := 1) hx hb dX2_joined_136 (by decide) ?_
                    refine lv_goto (tgt := 141) hx hb dX2_joined_137 (by decide) ?_
                    obtain rfl := mm_inj1 hf
                    exact mm_iret C0 hP hD hS dX2_joined_141
                · have hf := mm_in hf c_15
                  by_cases c_17 : x0 = (62 : Int32)
                  · have hf := mm_ip hf c_17
                    refine lv_lookup (off := 141) (tgt := 142) hx hb dX2_joined_1 (by decide) (by rw [c_17]; first | done | rfl | decide) (by decide) ?_
                    refine lv_iload_n hx hb dX2_joined_142 rfl (lv_at hl 1 rfl) ?_
                    refine lv_iload_n hx hb dX2_joined_143 rfl (lv_at hl 2 rfl) ?_
                    refine lv_icmp_le (tgt := 151) hx hb dX2_joined_144 (by decide) (fun c_18 => ?_) (fun c_18 => ?_)
                    · have hf := mm_ip hf c_18
                      refine lv_iconst (v := 0) hx hb dX2_joined_151 (by decide) ?_
                      obtain rfl := mm_inj1 hf
                      exact mm_iret C0 hP hD hS dX2_joined_152
                    · have hf := mm_in hf c_18
                      refine lv_iconst (v := 1) hx hb dX2_joined_147 (by decide) ?_
                      refine lv_goto (tgt := 152) hx hb dX2_joined_148 (by decide) ?_
                      obtain rfl := mm_inj1 hf
                      exact mm_iret C0 hP hD hS dX2_joined_152
                  · have hf := mm_in hf c_17
                    by_cases c_19 : x0 = (124 : Int32)
                    · have hf := mm_ip hf c_19
                      refine lv_lookup (off := 91) (tgt := 92) hx hb dX2_joined_1 (by decide) (by rw [c_19]; first | done | rfl | decide) (by decide) ?_
                      refine lv_iload_n hx hb dX2_joined_92 rfl (lv_at hl 1 rfl) ?_
                      refine lv_if_ne (tgt := 100) hx hb dX2_joined_93 (by decide) (fun c_20 => ?_) (fun c_20 => ?_)
                      · have hf := mm_in hf c_20
                        refine lv_iconst (v := 1) hx hb dX2_joined_100 (by decide) ?_
                        refine lv_goto (tgt := 105) hx hb dX2_joined_101 (by decide) ?_
                        obtain rfl := mm_inj1 hf
                        exact mm_iret C0 hP hD hS dX2_joined_105
                      · have hf := mm_ip hf c_20
                        refine lv_iload_n hx hb dX2_joined_96 rfl (lv_at hl 2 rfl) ?_
                        refine lv_if_eq (tgt := 104) hx hb dX2_joined_97 (by decide) (fun c_21 => ?_) (fun c_21 => ?_)
                        · have hf := mm_ip hf c_21
                          refine lv_iconst (v := 0) hx hb dX2_joined_104 (by decide) ?_
                          obtain rfl := mm_inj1 hf
                          exact mm_iret C0 hP hD hS dX2_joined_105
                        · have hf := mm_in hf c_21
                          refine lv_iconst (v := 1) hx hb dX2_joined_100 (by decide) ?_
                          refine lv_goto (tgt := 105) hx hb dX2_joined_101 (by decide) ?_
                          obtain rfl := mm_inj1 hf
                          exact mm_iret C0 hP hD hS dX2_joined_105
                    · have hf := mm_in hf c_19
                      refine lv_lookup (off := 188) (tgt := 189) hx hb dX2_joined_1 (by decide) ((lv_osw c_1 (by decide)).trans ((lv_osw c_4 (by decide)).trans ((lv_osw c_7 (by decide)).trans ((lv_osw c_8 (by decide)).trans ((lv_osw c_9 (by decide)).trans ((lv_osw c_10 (by decide)).trans ((lv_osw c_13 (by decide)).trans ((lv_osw c_15 (by decide)).trans ((lv_osw c_17 (by decide)).trans ((lv_osw c_19 (by decide)).trans (rfl))))))))))) (by decide) ?_
                      refine lv_iconst (v := 0) hx hb dX2_joined_189 (by decide) ?_
                      obtain rfl := mm_inj1 hf
                      exact mm_iret C0 hP hD hS dX2_joined_190

theorem dX2_pop_0 : decode cX2_pop 0 = .ok (.aload_n 0, 1) := by decide +kernel
theorem dX2_pop_1 : decode cX2_pop 1 = .ok (.getfield 91, 3) := by decide +kernel
theorem dX2_pop_4 : decode cX2_pop 4 = .ok (.ifCond .ne 5, 3) := by decide +kernel
theorem dX2_pop_7 : decode cX2_pop 7 = .ok (.iconst 0, 1) := by decide +kernel
theorem dX2_pop_8 : decode cX2_pop 8 = .ok (.ireturn, 1) := by decide +kernel
theorem dX2_pop_9 : decode cX2_pop 9 = .ok (.aload_n 0, 1) := by decide +kernel
theorem dX2_pop_10 : decode cX2_pop 10 = .ok (.dup, 1) := by decide +kernel
theorem dX2_pop_11 : decode cX2_pop 11 = .ok (.getfield 91, 3) := by decide +kernel
theorem dX2_pop_14 : decode cX2_pop 14 = .ok (.iconst 1, 1) := by decide +kernel
theorem dX2_pop_15 : decode cX2_pop 15 = .ok (.isub, 1) := by decide +kernel
theorem dX2_pop_16 : decode cX2_pop 16 = .ok (.putfield 91, 3) := by decide +kernel
theorem dX2_pop_19 : decode cX2_pop 19 = .ok (.aload_n 0, 1) := by decide +kernel
theorem dX2_pop_20 : decode cX2_pop 20 = .ok (.getfield 21, 3) := by decide +kernel
theorem dX2_pop_23 : decode cX2_pop 23 = .ok (.aload_n 0, 1) := by decide +kernel
theorem dX2_pop_24 : decode cX2_pop 24 = .ok (.getfield 91, 3) := by decide +kernel
theorem dX2_pop_27 : decode cX2_pop 27 = .ok (.iaload, 1) := by decide +kernel
theorem dX2_pop_28 : decode cX2_pop 28 = .ok (.ireturn, 1) := by decide +kernel
def fX2_pop (N : Nat) (v_stacked : Int32) (v_stack : List Int32) : Option (Int32 × Int32) :=
    if v_stacked = 0 then
    (some ((0 : Int32), v_stacked))
    else (mm_nm ((v_stacked - (1 : Int32))) (fun (y_2 : Int32) =>
    mm_ck (mm_inb y_2 v_stack.length) (some ((mm_ig v_stack y_2), y_2))))

set_option maxHeartbeats 4000000 in
set_option maxRecDepth 100000 in
theorem ctX2_pop {l : Launch} {D : va_G} {cI cL cS cH : ClassId} {a : Nat → Nat}  {v_size : Int32} {v_stepCount : Int32} {v_draftCount : Int32} {v_place : Int32} {v_fault : Int32} {v_stacked : Int32} {v_tape : List Int32} {v_steps : List Int32} {v_draft : List Int32} {v_stack : List Int32} {r : Int32} {w_stacked : Int32} {N d : Nat} (hd : 1 ≤ d) (hf : fX2_pop N v_stacked v_stack = some (r, w_stacked)) : mm_Ct l yX2_pop cX2_pop 1 (some .int) d D (mm_T cI cL cS cH) [.ref (a 0)] (wd_X2 cI cL cS cH a v_size v_stepCount v_draftCount v_place v_fault v_stacked v_tape v_steps v_draft v_stack) (wd_X2 cI cL cS cH a v_size v_stepCount v_draftCount v_place v_fault w_stacked v_tape v_steps v_draft v_stack) (some (.int r)) := by
  refine mm_of (by decide) (Nat.le_of_ble_eq_true rfl) ?_
  intro p e s m args below meth c A H locs ls C0 hP hD hA hS hl
  have C0 : mm_Cx p s m args meth c RX2 cX2_pop 1 (some .int) D (mm_T cI cL cS cH) A := C0
  obtain ⟨hx, hb, hml, hown, hts, hr, hlocks, hK, hSt⟩ := id C0
  have hl : lv_has ls 1 [(0, .ref (a 0))] := hl
  unfold fX2_pop at hf
  refine lv_aload_n hx hb dX2_pop_0 rfl (lv_at hl 0 rfl) ?_
  refine mm_get C0 hP iw_X2 0 rfl rfl 9 (by decide) fl_X2_91 rfl dX2_pop_1 ?_
  refine lv_if_ne (tgt := 9) hx hb dX2_pop_4 (by decide) (fun c_1 => ?_) (fun c_1 => ?_)
  · have hf := mm_in hf c_1
    refine lv_aload_n hx hb dX2_pop_9 rfl (lv_at hl 0 rfl) ?_
    refine lv_dup hx hb dX2_pop_10 rfl ?_
    refine mm_get C0 hP iw_X2 0 rfl rfl 9 (by decide) fl_X2_91 rfl dX2_pop_11 ?_
    refine lv_iconst (v := 1) hx hb dX2_pop_14 (by decide) ?_
    refine lv_isub hx hb dX2_pop_15 ?_
    refine lv_topi (fun y_2 ey_2 => ?_)
    have hf := mm_nms hf ey_2
    refine mm_put C0 hP hD hS iw_X2 tyX2 tyX2_ok nmX2 0 rfl rfl 9 (by decide) fl_X2_91 rfl rfl rfl (Nat.le_of_ble_eq_true rfl) dX2_pop_16 (w2 := (wd_X2 cI cL cS cH a v_size v_stepCount v_draftCount v_place v_fault y_2 v_tape v_steps v_draft v_stack)) rfl (fun H locs hP hD hS => ?_)
    refine lv_aload_n hx hb dX2_pop_19 rfl (lv_at hl 0 rfl) ?_
    refine mm_get C0 hP iw_X2 0 rfl rfl 8 (by decide) fl_X2_21 rfl dX2_pop_20 ?_
    refine lv_aload_n hx hb dX2_pop_23 rfl (lv_at hl 0 rfl) ?_
    refine mm_get C0 hP iw_X2 0 rfl rfl 9 (by decide) fl_X2_91 rfl dX2_pop_24 ?_
    obtain ⟨h_3, hf⟩ := mm_cks hf
    refine mm_iald C0 hP 4 rfl h_3 dX2_pop_27 ?_
    apply mm_sub2 hf
    exact mm_iret C0 hP hD hS dX2_pop_28
  · have hf := mm_ip hf c_1
    refine lv_iconst (v := 0) hx hb dX2_pop_7 (by decide) ?_
    apply mm_sub2 hf
    exact mm_iret C0 hP hD hS dX2_pop_8

theorem dX2_push_0 : decode cX2_push 0 = .ok (.aload_n 0, 1) := by decide +kernel
theorem dX2_push_1 : decode cX2_push 1 = .ok (.getfield 91, 3) := by decide +kernel
theorem dX2_push_4 : decode cX2_push 4 = .ok (.bipush 121, 2) := by decide +kernel
theorem dX2_push_6 : decode cX2_push 6 = .ok (.if_icmp .ge 23, 3) := by decide +kernel
theorem dX2_push_9 : decode cX2_push 9 = .ok (.aload_n 0, 1) := by decide +kernel
theorem dX2_push_10 : decode cX2_push 10 = .ok (.getfield 21, 3) := by decide +kernel
theorem dX2_push_13 : decode cX2_push 13 = .ok (.aload_n 0, 1) := by decide +kernel
theorem dX2_push_14 : decode cX2_push 14 = .ok (.getfield 91, 3) := by decide +kernel
theorem dX2_push_17 : decode cX2_push 17 = .ok (.iload_n 1, 1) := by decide +kernel
theorem dX2_push_18 : decode cX2_push 18 = .ok (.iastore, 1) := by decide +kernel
theorem dX2_push_19 : decode cX2_push 19 = .ok (.aload_n 0, 1) := by decide +kernel
theorem dX2_push_20 : decode cX2_push 20 = .ok (.dup, 1) := by decide +kernel
theorem dX2_push_21 : decode cX2_push 21 = .ok (.getfield 91, 3) := by decide +kernel
theorem dX2_push_24 : decode cX2_push 24 = .ok (.iconst 1, 1) := by decide +kernel
theorem dX2_push_25 : decode cX2_push 25 = .ok (.iadd, 1) := by decide +kernel
theorem dX2_push_26 : decode cX2_push 26 = .ok (.putfield 91, 3) := by decide +kernel
theorem dX2_push_29 : decode cX2_push 29 = .ok (.return_, 1) := by decide +kernel
def fX2_push (N : Nat) (x1 : Int32) (v_stacked : Int32) (v_stack : List Int32) : Option (Int32 × List Int32) :=
    if (121 : Int32) ≤ v_stacked then
    (some (v_stacked, v_stack))
    else (mm_ck (mm_inb v_stacked v_stack.length) (mm_nm (mm_is v_stack v_stacked x1) (fun (l_3 : List Int32) =>
    mm_nm ((v_stacked + (1 : Int32))) (fun (y_4 : Int32) =>
    some (y_4, l_3)))))

set_option maxHeartbeats 4000000 in
set_option maxRecDepth 100000 in
theorem ctX2_push {l : Launch} {D : va_G} {cI cL cS cH : ClassId} {a : Nat → Nat} {x1 : Int32} {v_size : Int32} {v_stepCount : Int32} {v_draftCount : Int32} {v_place : Int32} {v_fault : Int32} {v_stacked : Int32} {v_tape : List Int32} {v_steps : List Int32} {v_draft : List Int32} {v_stack : List Int32} {w_stacked : Int32} {w_stack : List Int32} {N d : Nat} (hd : 1 ≤ d) (hf : fX2_push N x1 v_stacked v_stack = some (w_stacked, w_stack)) : mm_Ct l yX2_push cX2_push 2 none d D (mm_T cI cL cS cH) [.ref (a 0), .int x1] (wd_X2 cI cL cS cH a v_size v_stepCount v_draftCount v_place v_fault v_stacked v_tape v_steps v_draft v_stack) (wd_X2 cI cL cS cH a v_size v_stepCount v_draftCount v_place v_fault w_stacked v_tape v_steps v_draft w_stack) none := by
  refine mm_of (by decide) (Nat.le_of_ble_eq_true rfl) ?_
  intro p e s m args below meth c A H locs ls C0 hP hD hA hS hl
  have C0 : mm_Cx p s m args meth c RX2 cX2_push 2 none D (mm_T cI cL cS cH) A := C0
  obtain ⟨hx, hb, hml, hown, hts, hr, hlocks, hK, hSt⟩ := id C0
  have hl : lv_has ls 2 [(0, .ref (a 0)), (1, .int x1)] := hl
  unfold fX2_push at hf
  refine lv_aload_n hx hb dX2_push_0 rfl (lv_at hl 0 rfl) ?_
  refine mm_get C0 hP iw_X2 0 rfl rfl 9 (by decide) fl_X2_91 rfl dX2_push_1 ?_
  refine lv_bipush (v := 121) hx hb dX2_push_4 (by decide) ?_
  refine lv_icmp_ge (tgt := 29) hx hb dX2_push_6 (by decide) (fun c_1 => ?_) (fun c_1 => ?_)
  · have hf := mm_ip hf c_1
    apply mm_sub2 hf
    exact mm_vret C0 hP hD hS dX2_push_29
  · have hf := mm_in hf c_1
    refine lv_aload_n hx hb dX2_push_9 rfl (lv_at hl 0 rfl) ?_
    refine mm_get C0 hP iw_X2 0 rfl rfl 8 (by decide) fl_X2_21 rfl dX2_push_10 ?_
    refine lv_aload_n hx hb dX2_push_13 rfl (lv_at hl 0 rfl) ?_
    refine mm_get C0 hP iw_X2 0 rfl rfl 9 (by decide) fl_X2_91 rfl dX2_push_14 ?_
    refine lv_iload_n hx hb dX2_push_17 rfl (lv_at hl 1 rfl) ?_
    obtain ⟨h_2, hf⟩ := mm_cks hf
    refine mm_iast C0 hP hD hS 4 rfl h_2 dX2_push_18 (w2 := (wd_X2 cI cL cS cH a v_size v_stepCount v_draftCount v_place v_fault v_stacked v_tape v_steps v_draft (mm_is v_stack v_stacked x1))) rfl (fun H locs hP hD hS => ?_)
    generalize el_3 : (mm_is v_stack v_stacked x1) = l_3 at hP hD
    have hf := mm_nms hf el_3.symm
    refine lv_aload_n hx hb dX2_push_19 rfl (lv_at hl 0 rfl) ?_
    refine lv_dup hx hb dX2_push_20 rfl ?_
    refine mm_get C0 hP iw_X2 0 rfl rfl 9 (by decide) fl_X2_91 rfl dX2_push_21 ?_
    refine lv_iconst (v := 1) hx hb dX2_push_24 (by decide) ?_
    refine lv_iadd hx hb dX2_push_25 ?_
    refine lv_topi (fun y_4 ey_4 => ?_)
    have hf := mm_nms hf ey_4
    refine mm_put C0 hP hD hS iw_X2 tyX2 tyX2_ok nmX2 0 rfl rfl 9 (by decide) fl_X2_91 rfl rfl rfl (Nat.le_of_ble_eq_true rfl) dX2_push_26 (w2 := (wd_X2 cI cL cS cH a v_size v_stepCount v_draftCount v_place v_fault y_4 v_tape v_steps v_draft l_3)) rfl (fun H locs hP hD hS => ?_)
    apply mm_sub2 hf
    exact mm_vret C0 hP hD hS dX2_push_29

theorem dX2_worth_0 : decode cX2_worth 0 = .ok (.aload_n 0, 1) := by decide +kernel
theorem dX2_worth_1 : decode cX2_worth 1 = .ok (.getfield 53, 3) := by decide +kernel
theorem dX2_worth_4 : decode cX2_worth 4 = .ok (.ifCond .ne 9, 3) := by decide +kernel
theorem dX2_worth_7 : decode cX2_worth 7 = .ok (.iconst 1, 1) := by decide +kernel
theorem dX2_worth_8 : decode cX2_worth 8 = .ok (.iconst 2, 1) := by decide +kernel
theorem dX2_worth_9 : decode cX2_worth 9 = .ok (.iload_n 3, 1) := by decide +kernel
theorem dX2_worth_10 : decode cX2_worth 10 = .ok (.imul, 1) := by decide +kernel
theorem dX2_worth_11 : decode cX2_worth 11 = .ok (.iadd, 1) := by decide +kernel
theorem dX2_worth_12 : decode cX2_worth 12 = .ok (.ireturn, 1) := by decide +kernel
theorem dX2_worth_13 : decode cX2_worth 13 = .ok (.aload_n 0, 1) := by decide +kernel
theorem dX2_worth_14 : decode cX2_worth 14 = .ok (.iconst 0, 1) := by decide +kernel
theorem dX2_worth_15 : decode cX2_worth 15 = .ok (.putfield 91, 3) := by decide +kernel
theorem dX2_worth_18 : decode cX2_worth 18 = .ok (.iconst 1, 1) := by decide +kernel
theorem dX2_worth_19 : decode cX2_worth 19 = .ok (.istore 7, 2) := by decide +kernel
theorem dX2_worth_21 : decode cX2_worth 21 = .ok (.iconst 0, 1) := by decide +kernel
theorem dX2_worth_22 : decode cX2_worth 22 = .ok (.istore 8, 2) := by decide +kernel
theorem dX2_worth_24 : decode cX2_worth 24 = .ok (.iload 8, 2) := by decide +kernel
theorem dX2_worth_26 : decode cX2_worth 26 = .ok (.aload_n 0, 1) := by decide +kernel
theorem dX2_worth_27 : decode cX2_worth 27 = .ok (.getfield 53, 3) := by decide +kernel
theorem dX2_worth_30 : decode cX2_worth 30 = .ok (.if_icmp .ge 293, 3) := by decide +kernel
theorem dX2_worth_33 : decode cX2_worth 33 = .ok (.aload_n 0, 1) := by decide +kernel
theorem dX2_worth_34 : decode cX2_worth 34 = .ok (.getfield 15, 3) := by decide +kernel
theorem dX2_worth_37 : decode cX2_worth 37 = .ok (.iload 8, 2) := by decide +kernel
theorem dX2_worth_39 : decode cX2_worth 39 = .ok (.iaload, 1) := by decide +kernel
theorem dX2_worth_40 : decode cX2_worth 40 = .ok (.lookupswitch 220 #[(33, 189), (59, 92), (63, 121), (98, 180), (102, 171), (107, 162), (110, 138), (114, 154), (119, 146), (126, 208)], 92) := by decide +kernel
theorem dX2_worth_132 : decode cX2_worth 132 = .ok (.aload_n 0, 1) := by decide +kernel
theorem dX2_worth_133 : decode cX2_worth 133 = .ok (.invokevirtual 94, 3) := by decide +kernel
theorem dX2_worth_136 : decode cX2_worth 136 = .ok (.istore 9, 2) := by decide +kernel
theorem dX2_worth_138 : decode cX2_worth 138 = .ok (.iload 7, 2) := by decide +kernel
theorem dX2_worth_140 : decode cX2_worth 140 = .ok (.ifCond .eq 15, 3) := by decide +kernel
theorem dX2_worth_143 : decode cX2_worth 143 = .ok (.iconst 0, 1) := by decide +kernel
theorem dX2_worth_144 : decode cX2_worth 144 = .ok (.bipush 9, 2) := by decide +kernel
theorem dX2_worth_146 : decode cX2_worth 146 = .ok (.iload 9, 2) := by decide +kernel
theorem dX2_worth_148 : decode cX2_worth 148 = .ok (.invokestatic 97, 3) := by decide +kernel
theorem dX2_worth_151 : decode cX2_worth 151 = .ok (.invokestatic 103, 3) := by decide +kernel
theorem dX2_worth_154 : decode cX2_worth 154 = .ok (.ireturn, 1) := by decide +kernel
theorem dX2_worth_155 : decode cX2_worth 155 = .ok (.iconst 1, 1) := by decide +kernel
theorem dX2_worth_156 : decode cX2_worth 156 = .ok (.istore 7, 2) := by decide +kernel
theorem dX2_worth_158 : decode cX2_worth 158 = .ok (.goto 159, 3) := by decide +kernel
theorem dX2_worth_161 : decode cX2_worth 161 = .ok (.aload_n 0, 1) := by decide +kernel
theorem dX2_worth_162 : decode cX2_worth 162 = .ok (.invokevirtual 94, 3) := by decide +kernel
theorem dX2_worth_165 : decode cX2_worth 165 = .ok (.ifCond .eq 7, 3) := by decide +kernel
theorem dX2_worth_168 : decode cX2_worth 168 = .ok (.iconst 1, 1) := by decide +kernel
theorem dX2_worth_169 : decode cX2_worth 169 = .ok (.goto 4, 3) := by decide +kernel
theorem dX2_worth_172 : decode cX2_worth 172 = .ok (.iconst 0, 1) := by decide +kernel
theorem dX2_worth_173 : decode cX2_worth 173 = .ok (.istore 7, 2) := by decide +kernel
theorem dX2_worth_175 : decode cX2_worth 175 = .ok (.goto 142, 3) := by decide +kernel
theorem dX2_worth_178 : decode cX2_worth 178 = .ok (.aload_n 0, 1) := by decide +kernel
theorem dX2_worth_179 : decode cX2_worth 179 = .ok (.iload_n 1, 1) := by decide +kernel
theorem dX2_worth_180 : decode cX2_worth 180 = .ok (.invokevirtual 106, 3) := by decide +kernel
theorem dX2_worth_183 : decode cX2_worth 183 = .ok (.goto 134, 3) := by decide +kernel
theorem dX2_worth_186 : decode cX2_worth 186 = .ok (.aload_n 0, 1) := by decide +kernel
theorem dX2_worth_187 : decode cX2_worth 187 = .ok (.iload_n 2, 1) := by decide +kernel
theorem dX2_worth_188 : decode cX2_worth 188 = .ok (.invokevirtual 106, 3) := by decide +kernel
theorem dX2_worth_191 : decode cX2_worth 191 = .ok (.goto 126, 3) := by decide +kernel
theorem dX2_worth_194 : decode cX2_worth 194 = .ok (.aload_n 0, 1) := by decide +kernel
theorem dX2_worth_195 : decode cX2_worth 195 = .ok (.iload_n 3, 1) := by decide +kernel
theorem dX2_worth_196 : decode cX2_worth 196 = .ok (.invokevirtual 106, 3) := by decide +kernel
theorem dX2_worth_199 : decode cX2_worth 199 = .ok (.goto 118, 3) := by decide +kernel
theorem dX2_worth_202 : decode cX2_worth 202 = .ok (.aload_n 0, 1) := by decide +kernel
theorem dX2_worth_203 : decode cX2_worth 203 = .ok (.iload 4, 2) := by decide +kernel
theorem dX2_worth_205 : decode cX2_worth 205 = .ok (.invokevirtual 106, 3) := by decide +kernel
theorem dX2_worth_208 : decode cX2_worth 208 = .ok (.goto 109, 3) := by decide +kernel
theorem dX2_worth_211 : decode cX2_worth 211 = .ok (.aload_n 0, 1) := by decide +kernel
theorem dX2_worth_212 : decode cX2_worth 212 = .ok (.iload 5, 2) := by decide +kernel
theorem dX2_worth_214 : decode cX2_worth 214 = .ok (.invokevirtual 106, 3) := by decide +kernel
theorem dX2_worth_217 : decode cX2_worth 217 = .ok (.goto 100, 3) := by decide +kernel
theorem dX2_worth_220 : decode cX2_worth 220 = .ok (.aload_n 0, 1) := by decide +kernel
theorem dX2_worth_221 : decode cX2_worth 221 = .ok (.iload 6, 2) := by decide +kernel
theorem dX2_worth_223 : decode cX2_worth 223 = .ok (.invokevirtual 106, 3) := by decide +kernel
theorem dX2_worth_226 : decode cX2_worth 226 = .ok (.goto 91, 3) := by decide +kernel
theorem dX2_worth_229 : decode cX2_worth 229 = .ok (.aload_n 0, 1) := by decide +kernel
theorem dX2_worth_230 : decode cX2_worth 230 = .ok (.aload_n 0, 1) := by decide +kernel
theorem dX2_worth_231 : decode cX2_worth 231 = .ok (.invokevirtual 94, 3) := by decide +kernel
theorem dX2_worth_234 : decode cX2_worth 234 = .ok (.ifCond .ne 7, 3) := by decide +kernel
theorem dX2_worth_237 : decode cX2_worth 237 = .ok (.iconst 1, 1) := by decide +kernel
theorem dX2_worth_238 : decode cX2_worth 238 = .ok (.goto 4, 3) := by decide +kernel
theorem dX2_worth_241 : decode cX2_worth 241 = .ok (.iconst 0, 1) := by decide +kernel
theorem dX2_worth_242 : decode cX2_worth 242 = .ok (.invokevirtual 106, 3) := by decide +kernel
theorem dX2_worth_245 : decode cX2_worth 245 = .ok (.goto 72, 3) := by decide +kernel
theorem dX2_worth_248 : decode cX2_worth 248 = .ok (.aload_n 0, 1) := by decide +kernel
theorem dX2_worth_249 : decode cX2_worth 249 = .ok (.aload_n 0, 1) := by decide +kernel
theorem dX2_worth_250 : decode cX2_worth 250 = .ok (.invokevirtual 94, 3) := by decide +kernel
theorem dX2_worth_253 : decode cX2_worth 253 = .ok (.ineg, 1) := by decide +kernel
theorem dX2_worth_254 : decode cX2_worth 254 = .ok (.invokevirtual 106, 3) := by decide +kernel
theorem dX2_worth_257 : decode cX2_worth 257 = .ok (.goto 60, 3) := by decide +kernel
theorem dX2_worth_260 : decode cX2_worth 260 = .ok (.aload_n 0, 1) := by decide +kernel
theorem dX2_worth_261 : decode cX2_worth 261 = .ok (.getfield 15, 3) := by decide +kernel
theorem dX2_worth_264 : decode cX2_worth 264 = .ok (.iload 8, 2) := by decide +kernel
theorem dX2_worth_266 : decode cX2_worth 266 = .ok (.iaload, 1) := by decide +kernel
theorem dX2_worth_267 : decode cX2_worth 267 = .ok (.sipush 1000, 3) := by decide +kernel
theorem dX2_worth_270 : decode cX2_worth 270 = .ok (.if_icmp .lt 21, 3) := by decide +kernel
theorem dX2_worth_273 : decode cX2_worth 273 = .ok (.aload_n 0, 1) := by decide +kernel
theorem dX2_worth_274 : decode cX2_worth 274 = .ok (.aload_n 0, 1) := by decide +kernel
theorem dX2_worth_275 : decode cX2_worth 275 = .ok (.getfield 15, 3) := by decide +kernel
theorem dX2_worth_278 : decode cX2_worth 278 = .ok (.iload 8, 2) := by decide +kernel
theorem dX2_worth_280 : decode cX2_worth 280 = .ok (.iaload, 1) := by decide +kernel
theorem dX2_worth_281 : decode cX2_worth 281 = .ok (.sipush 1000, 3) := by decide +kernel
theorem dX2_worth_284 : decode cX2_worth 284 = .ok (.isub, 1) := by decide +kernel
theorem dX2_worth_285 : decode cX2_worth 285 = .ok (.invokevirtual 106, 3) := by decide +kernel
theorem dX2_worth_288 : decode cX2_worth 288 = .ok (.goto 29, 3) := by decide +kernel
theorem dX2_worth_291 : decode cX2_worth 291 = .ok (.aload_n 0, 1) := by decide +kernel
theorem dX2_worth_292 : decode cX2_worth 292 = .ok (.invokevirtual 94, 3) := by decide +kernel
theorem dX2_worth_295 : decode cX2_worth 295 = .ok (.istore 10, 2) := by decide +kernel
theorem dX2_worth_297 : decode cX2_worth 297 = .ok (.aload_n 0, 1) := by decide +kernel
theorem dX2_worth_298 : decode cX2_worth 298 = .ok (.aload_n 0, 1) := by decide +kernel
theorem dX2_worth_299 : decode cX2_worth 299 = .ok (.getfield 15, 3) := by decide +kernel
theorem dX2_worth_302 : decode cX2_worth 302 = .ok (.iload 8, 2) := by decide +kernel
theorem dX2_worth_304 : decode cX2_worth 304 = .ok (.iaload, 1) := by decide +kernel
theorem dX2_worth_305 : decode cX2_worth 305 = .ok (.aload_n 0, 1) := by decide +kernel
theorem dX2_worth_306 : decode cX2_worth 306 = .ok (.invokevirtual 94, 3) := by decide +kernel
theorem dX2_worth_309 : decode cX2_worth 309 = .ok (.iload 10, 2) := by decide +kernel
theorem dX2_worth_311 : decode cX2_worth 311 = .ok (.invokestatic 109, 3) := by decide +kernel
theorem dX2_worth_314 : decode cX2_worth 314 = .ok (.invokevirtual 106, 3) := by decide +kernel
theorem dX2_worth_317 : decode cX2_worth 317 = .ok (.iinc 8 1, 3) := by decide +kernel
theorem dX2_worth_320 : decode cX2_worth 320 = .ok (.goto (-296), 3) := by decide +kernel
theorem dX2_worth_323 : decode cX2_worth 323 = .ok (.iconst 0, 1) := by decide +kernel
theorem dX2_worth_324 : decode cX2_worth 324 = .ok (.ireturn, 1) := by decide +kernel
def fX2_worth_317 (N : Nat) (k_24 : Int32 → Int32 → Int32 → Int32 → Int32 → Int32 → Int32 → Int32 → Int32 → Int32 → List Int32 → List Int32 → Option (Int32 × Int32 × List Int32)) (x1 : Int32) (x2 : Int32) (x3 : Int32) (x4 : Int32) (x5 : Int32) (x6 : Int32) (x7 : Int32) (x8 : Int32) (v_stepCount : Int32) (v_stacked : Int32) (v_steps : List Int32) (v_stack : List Int32) : Option (Int32 × Int32 × List Int32) :=
    mm_nm (x8 + (1 : Int32)) (fun (y_69 : Int32) =>
    k_24 x1 x2 x3 x4 x5 x6 x7 y_69 v_stepCount v_stacked v_steps v_stack)

set_option maxHeartbeats 4000000 in
set_option maxRecDepth 100000 in
theorem tX2_worth_317 {p : Program} {l : Launch} {e : Env} {s : State} {m : MethodId} {args : Array Value} {below : List Frame} {meth : Method} {c : Code} {D : va_G} {cI cL cS cH : ClassId} {A : Nat → Prop} {d : Nat} {a : Nat → Nat} (hd : 2 ≤ d) (C0 : mm_Cx p s m args meth c RX2 cX2_worth 11 (some .int) D (mm_T cI cL cS cH) A) (hA : ∀ q, s.heap.size ≤ q → A q) {v_size : Int32} {v_draftCount : Int32} {v_place : Int32} {v_fault : Int32} {v_tape : List Int32} {v_draft : List Int32} {r : Int32} {w_stacked : Int32} {w_stack : List Int32} (N : Nat) {k_24 : Int32 → Int32 → Int32 → Int32 → Int32 → Int32 → Int32 → Int32 → Int32 → Int32 → List Int32 → List Int32 → Option (Int32 × Int32 × List Int32)} (hk_24 : ∀ (x1 : Int32) (x2 : Int32) (x3 : Int32) (x4 : Int32) (x5 : Int32) (x6 : Int32) (x7 : Int32) (x8 : Int32) (v_stepCount : Int32) (v_stacked : Int32) (v_steps : List Int32) (v_stack : List Int32) (H : Heap) (locs : List Loc) (ls : Array Slot), k_24 x1 x2 x3 x4 x5 x6 x7 x8 v_stepCount v_stacked v_steps v_stack = some (r, w_stacked, w_stack) → va_P D mm_cl (wd_X2 cI cL cS cH a v_size v_stepCount v_draftCount v_place v_fault v_stacked v_tape v_steps v_draft v_stack) H → va_D A (wd_X2 cI cL cS cH a v_size v_stepCount v_draftCount v_place v_fault v_stacked v_tape v_steps v_draft v_stack) → va_S A s.heap H locs → lv_has ls 11 [(0, .ref (a 0)), (1, .int x1), (2, .int x2), (3, .int x3), (4, .int x4), (5, .int x5), (6, .int x6), (7, .int x7), (8, .int x8)] → W p l e (mm_rr d) s m args below meth c H locs 0 0 (mm_Z below D A (wd_X2 cI cL cS cH a v_size v_stepCount v_draftCount v_place v_fault w_stacked v_tape v_steps v_draft w_stack) (some (.int r)) args s) (F0 m 24 ls [])) : ∀ (x1 : Int32) (x2 : Int32) (x3 : Int32) (x4 : Int32) (x5 : Int32) (x6 : Int32) (x7 : Int32) (x8 : Int32) (v_stepCount : Int32) (v_stacked : Int32) (v_steps : List Int32) (v_stack : List Int32) (H : Heap) (locs : List Loc) (ls : Array Slot), fX2_worth_317 N k_24 x1 x2 x3 x4 x5 x6 x7 x8 v_stepCount v_stacked v_steps v_stack = some (r, w_stacked, w_stack) → va_P D mm_cl (wd_X2 cI cL cS cH a v_size v_stepCount v_draftCount v_place v_fault v_stacked v_tape v_steps v_draft v_stack) H → va_D A (wd_X2 cI cL cS cH a v_size v_stepCount v_draftCount v_place v_fault v_stacked v_tape v_steps v_draft v_stack) → va_S A s.heap H locs → lv_has ls 11 [(0, .ref (a 0)), (1, .int x1), (2, .int x2), (3, .int x3), (4, .int x4), (5, .int x5), (6, .int x6), (7, .int x7), (8, .int x8)] → W p l e (mm_rr d) s m args below meth c H locs 0 0 (mm_Z below D A (wd_X2 cI cL cS cH a v_size v_stepCount v_draftCount v_place v_fault w_stacked v_tape v_steps v_draft w_stack) (some (.int r)) args s) (F0 m 317 ls []) := by
  obtain ⟨hx, hb, hml, hown, hts, hr, hlocks, hK, hSt⟩ := id C0
  intro x1 x2 x3 x4 x5 x6 x7 x8 v_stepCount v_stacked v_steps v_stack H locs ls hf hP hD hS hl
  unfold fX2_worth_317 at hf
  obtain ⟨y_69, ey_69⟩ : ∃ z : Int32, z = x8 + (1 : Int32) := ⟨_, rfl⟩
  have hf := mm_nms hf ey_69
  refine lv_iinc (v := y_69) (lv' := [(8, .int y_69), (0, .ref (a 0)), (1, .int x1), (2, .int x2), (3, .int x3), (4, .int x4), (5, .int x5), (6, .int x6), (7, .int x7)]) hx hb dX2_worth_317 hl (k := 8) rfl (by rw [ey_69]; rfl) (by decide) rfl (fun ls hl => ?_)
  refine lv_goto (tgt := 24) hx hb dX2_worth_320 (by decide) ?_
  exact hk_24 _ _ _ _ _ _ _ _ _ _ _ _ H locs ls hf hP hD hS (lv_sub hl [1, 2, 3, 4, 5, 6, 7, 8, 0] rfl)

def fX2_worth_173 (N : Nat) (k_24 : Int32 → Int32 → Int32 → Int32 → Int32 → Int32 → Int32 → Int32 → Int32 → Int32 → List Int32 → List Int32 → Option (Int32 × Int32 × List Int32)) (x1 : Int32) (x2 : Int32) (x3 : Int32) (x4 : Int32) (x5 : Int32) (x6 : Int32) (x8 : Int32) (s0 : Int32) (v_stepCount : Int32) (v_stacked : Int32) (v_steps : List Int32) (v_stack : List Int32) : Option (Int32 × Int32 × List Int32) :=
    fX2_worth_317 N k_24 x1 x2 x3 x4 x5 x6 s0 x8 v_stepCount v_stacked v_steps v_stack

set_option maxHeartbeats 4000000 in
set_option maxRecDepth 100000 in
theorem tX2_worth_173 {p : Program} {l : Launch} {e : Env} {s : State} {m : MethodId} {args : Array Value} {below : List Frame} {meth : Method} {c : Code} {D : va_G} {cI cL cS cH : ClassId} {A : Nat → Prop} {d : Nat} {a : Nat → Nat} (hd : 2 ≤ d) (C0 : mm_Cx p s m args meth c RX2 cX2_worth 11 (some .int) D (mm_T cI cL cS cH) A) (hA : ∀ q, s.heap.size ≤ q → A q) {v_size : Int32} {v_draftCount : Int32} {v_place : Int32} {v_fault : Int32} {v_tape : List Int32} {v_draft : List Int32} {r : Int32} {w_stacked : Int32} {w_stack : List Int32} (N : Nat) {k_24 : Int32 → Int32 → Int32 → Int32 → Int32 → Int32 → Int32 → Int32 → Int32 → Int32 → List Int32 → List Int32 → Option (Int32 × Int32 × List Int32)} (hk_24 : ∀ (x1 : Int32) (x2 : Int32) (x3 : Int32) (x4 : Int32) (x5 : Int32) (x6 : Int32) (x7 : Int32) (x8 : Int32) (v_stepCount : Int32) (v_stacked : Int32) (v_steps : List Int32) (v_stack : List Int32) (H : Heap) (locs : List Loc) (ls : Array Slot), k_24 x1 x2 x3 x4 x5 x6 x7 x8 v_stepCount v_stacked v_steps v_stack = some (r, w_stacked, w_stack) → va_P D mm_cl (wd_X2 cI cL cS cH a v_size v_stepCount v_draftCount v_place v_fault v_stacked v_tape v_steps v_draft v_stack) H → va_D A (wd_X2 cI cL cS cH a v_size v_stepCount v_draftCount v_place v_fault v_stacked v_tape v_steps v_draft v_stack) → va_S A s.heap H locs → lv_has ls 11 [(0, .ref (a 0)), (1, .int x1), (2, .int x2), (3, .int x3), (4, .int x4), (5, .int x5), (6, .int x6), (7, .int x7), (8, .int x8)] → W p l e (mm_rr d) s m args below meth c H locs 0 0 (mm_Z below D A (wd_X2 cI cL cS cH a v_size v_stepCount v_draftCount v_place v_fault w_stacked v_tape v_steps v_draft w_stack) (some (.int r)) args s) (F0 m 24 ls [])) : ∀ (x1 : Int32) (x2 : Int32) (x3 : Int32) (x4 : Int32) (x5 : Int32) (x6 : Int32) (x8 : Int32) (s0 : Int32) (v_stepCount : Int32) (v_stacked : Int32) (v_steps : List Int32) (v_stack : List Int32) (H : Heap) (locs : List Loc) (ls : Array Slot), fX2_worth_173 N k_24 x1 x2 x3 x4 x5 x6 x8 s0 v_stepCount v_stacked v_steps v_stack = some (r, w_stacked, w_stack) → va_P D mm_cl (wd_X2 cI cL cS cH a v_size v_stepCount v_draftCount v_place v_fault v_stacked v_tape v_steps v_draft v_stack) H → va_D A (wd_X2 cI cL cS cH a v_size v_stepCount v_draftCount v_place v_fault v_stacked v_tape v_steps v_draft v_stack) → va_S A s.heap H locs → lv_has ls 11 [(0, .ref (a 0)), (1, .int x1), (2, .int x2), (3, .int x3), (4, .int x4), (5, .int x5), (6, .int x6), (8, .int x8)] → W p l e (mm_rr d) s m args below meth c H locs 0 0 (mm_Z below D A (wd_X2 cI cL cS cH a v_size v_stepCount v_draftCount v_place v_fault w_stacked v_tape v_steps v_draft w_stack) (some (.int r)) args s) (F0 m 173 ls [.int s0]) := by
  obtain ⟨hx, hb, hml, hown, hts, hr, hlocks, hK, hSt⟩ := id C0
  intro x1 x2 x3 x4 x5 x6 x8 s0 v_stepCount v_stacked v_steps v_stack H locs ls hf hP hD hS hl
  unfold fX2_worth_173 at hf
  refine lv_istore (lv' := [(7, .int s0), (0, .ref (a 0)), (1, .int x1), (2, .int x2), (3, .int x3), (4, .int x4), (5, .int x5), (6, .int x6), (8, .int x8)]) hx hb dX2_worth_173 hl (by decide) rfl (fun ls hl => ?_)
  refine lv_goto (tgt := 317) hx hb dX2_worth_175 (by decide) ?_
  exact tX2_worth_317 hd C0 hA N hk_24 _ _ _ _ _ _ _ _ _ _ _ _ H locs ls hf hP hD hS (lv_sub hl [1, 2, 3, 4, 5, 6, 7, 0, 8] rfl)

def fX2_worth_242 (N : Nat) (k_24 : Int32 → Int32 → Int32 → Int32 → Int32 → Int32 → Int32 → Int32 → Int32 → Int32 → List Int32 → List Int32 → Option (Int32 × Int32 × List Int32)) (x1 : Int32) (x2 : Int32) (x3 : Int32) (x4 : Int32) (x5 : Int32) (x6 : Int32) (x7 : Int32) (x8 : Int32) (s0 : Int32) (v_stepCount : Int32) (v_stacked : Int32) (v_steps : List Int32) (v_stack : List Int32) : Option (Int32 × Int32 × List Int32) :=
    mm_bd2 (fX2_push N s0 v_stacked v_stack) (fun (w_70 : Int32) (w_71 : List Int32) =>
    fX2_worth_317 N k_24 x1 x2 x3 x4 x5 x6 x7 x8 v_stepCount w_70 v_steps w_71)

set_option maxHeartbeats 4000000 in
set_option maxRecDepth 100000 in
theorem tX2_worth_242 {p : Program} {l : Launch} {e : Env} {s : State} {m : MethodId} {args : Array Value} {below : List Frame} {meth : Method} {c : Code} {D : va_G} {cI cL cS cH : ClassId} {A : Nat → Prop} {d : Nat} {a : Nat → Nat} (hd : 2 ≤ d) (C0 : mm_Cx p s m args meth c RX2 cX2_worth 11 (some .int) D (mm_T cI cL cS cH) A) (hA : ∀ q, s.heap.size ≤ q → A q) {v_size : Int32} {v_draftCount : Int32} {v_place : Int32} {v_fault : Int32} {v_tape : List Int32} {v_draft : List Int32} {r : Int32} {w_stacked : Int32} {w_stack : List Int32} (N : Nat) {k_24 : Int32 → Int32 → Int32 → Int32 → Int32 → Int32 → Int32 → Int32 → Int32 → Int32 → List Int32 → List Int32 → Option (Int32 × Int32 × List Int32)} (hk_24 : ∀ (x1 : Int32) (x2 : Int32) (x3 : Int32) (x4 : Int32) (x5 : Int32) (x6 : Int32) (x7 : Int32) (x8 : Int32) (v_stepCount : Int32) (v_stacked : Int32) (v_steps : List Int32) (v_stack : List Int32) (H : Heap) (locs : List Loc) (ls : Array Slot), k_24 x1 x2 x3 x4 x5 x6 x7 x8 v_stepCount v_stacked v_steps v_stack = some (r, w_stacked, w_stack) → va_P D mm_cl (wd_X2 cI cL cS cH a v_size v_stepCount v_draftCount v_place v_fault v_stacked v_tape v_steps v_draft v_stack) H → va_D A (wd_X2 cI cL cS cH a v_size v_stepCount v_draftCount v_place v_fault v_stacked v_tape v_steps v_draft v_stack) → va_S A s.heap H locs → lv_has ls 11 [(0, .ref (a 0)), (1, .int x1), (2, .int x2), (3, .int x3), (4, .int x4), (5, .int x5), (6, .int x6), (7, .int x7), (8, .int x8)] → W p l e (mm_rr d) s m args below meth c H locs 0 0 (mm_Z below D A (wd_X2 cI cL cS cH a v_size v_stepCount v_draftCount v_place v_fault w_stacked v_tape v_steps v_draft w_stack) (some (.int r)) args s) (F0 m 24 ls [])) : ∀ (x1 : Int32) (x2 : Int32) (x3 : Int32) (x4 : Int32) (x5 : Int32) (x6 : Int32) (x7 : Int32) (x8 : Int32) (s0 : Int32) (v_stepCount : Int32) (v_stacked : Int32) (v_steps : List Int32) (v_stack : List Int32) (H : Heap) (locs : List Loc) (ls : Array Slot), fX2_worth_242 N k_24 x1 x2 x3 x4 x5 x6 x7 x8 s0 v_stepCount v_stacked v_steps v_stack = some (r, w_stacked, w_stack) → va_P D mm_cl (wd_X2 cI cL cS cH a v_size v_stepCount v_draftCount v_place v_fault v_stacked v_tape v_steps v_draft v_stack) H → va_D A (wd_X2 cI cL cS cH a v_size v_stepCount v_draftCount v_place v_fault v_stacked v_tape v_steps v_draft v_stack) → va_S A s.heap H locs → lv_has ls 11 [(0, .ref (a 0)), (1, .int x1), (2, .int x2), (3, .int x3), (4, .int x4), (5, .int x5), (6, .int x6), (7, .int x7), (8, .int x8)] → W p l e (mm_rr d) s m args below meth c H locs 0 0 (mm_Z below D A (wd_X2 cI cL cS cH a v_size v_stepCount v_draftCount v_place v_fault w_stacked v_tape v_steps v_draft w_stack) (some (.int r)) args s) (F0 m 242 ls [.int s0, .ref (a 0)]) := by
  obtain ⟨hx, hb, hml, hown, hts, hr, hlocks, hK, hSt⟩ := id C0
  intro x1 x2 x3 x4 x5 x6 x7 x8 s0 v_stepCount v_stacked v_steps v_stack H locs ls hf hP hD hS hl
  unfold fX2_worth_242 at hf
  obtain ⟨w_70, w_71, hc_72, hf⟩ := mm_bd2s hf
  refine mm_callVF (q0 := 0) (ci := 2) (rest := []) C0 lk_X2_106 (ctX2_push (a := a) (d := d - 1) (by omega) hc_72) (by omega) rfl hl.1 rfl (mm_cat rfl) dX2_worth_242 hP hD hA hS rfl rfl (fun H locs hP hD hS => ?_)
  refine W.eq (g2 := F0 m 245 ls []) rfl ?_
  refine lv_goto (tgt := 317) hx hb dX2_worth_245 (by decide) ?_
  exact tX2_worth_317 hd C0 hA N hk_24 _ _ _ _ _ _ _ _ _ _ _ _ H locs ls hf hP hD hS (lv_sub hl [0, 1, 2, 3, 4, 5, 6, 7, 8] rfl)

def fX2_worth_24 (N : Nat)  : Nat → Int32 → Int32 → Int32 → Int32 → Int32 → Int32 → Int32 → Int32 → Int32 → Int32 → List Int32 → List Int32 → Option (Int32 × Int32 × List Int32)
  | 0 => fun _ _ _ _ _ _ _ _ _ _ _ _ => none
  | n + 1 => fun x1 x2 x3 x4 x5 x6 x7 x8 v_stepCount v_stacked v_steps v_stack =>
    if v_stepCount ≤ x8 then
    (some ((0 : Int32), v_stacked, v_stack))
    else (mm_ck (mm_inb x8 v_steps.length) (mm_nm ((mm_ig v_steps x8)) (fun (y_4 : Int32) =>
    if y_4 = (33 : Int32) then
    (mm_bd2 (fX2_pop N v_stacked v_stack) (fun (r_6 : Int32) (w_7 : Int32) =>
    if r_6 = 0 then
    (fX2_worth_242 N (fX2_worth_24 N n) x1 x2 x3 x4 x5 x6 x7 x8 (1 : Int32) v_stepCount w_7 v_steps v_stack)
    else (fX2_worth_242 N (fX2_worth_24 N n) x1 x2 x3 x4 x5 x6 x7 x8 (0 : Int32) v_stepCount w_7 v_steps v_stack)))
    else (if y_4 = (59 : Int32) then
    (mm_bd2 (fX2_pop N v_stacked v_stack) (fun (r_11 : Int32) (w_12 : Int32) =>
    if x7 = 0 then
    (fX2_worth_317 N (fX2_worth_24 N n) x1 x2 x3 x4 x5 x6 (1 : Int32) x8 v_stepCount w_12 v_steps v_stack)
    else (some ((mm_max (0 : Int32) (mm_min (9 : Int32) r_11)), w_12, v_stack))))
    else (if y_4 = (63 : Int32) then
    (mm_bd2 (fX2_pop N v_stacked v_stack) (fun (r_16 : Int32) (w_17 : Int32) =>
    if r_16 = 0 then
    (fX2_worth_173 N (fX2_worth_24 N n) x1 x2 x3 x4 x5 x6 x8 (0 : Int32) v_stepCount w_17 v_steps v_stack)
    else (fX2_worth_173 N (fX2_worth_24 N n) x1 x2 x3 x4 x5 x6 x8 (1 : Int32) v_stepCount w_17 v_steps v_stack)))
    else (if y_4 = (98 : Int32) then
    (mm_bd2 (fX2_push N x6 v_stacked v_stack) (fun (w_21 : Int32) (w_22 : List Int32) =>
    fX2_worth_317 N (fX2_worth_24 N n) x1 x2 x3 x4 x5 x6 x7 x8 v_stepCount w_21 v_steps w_22))
    else (if y_4 = (102 : Int32) then
    (mm_bd2 (fX2_push N x5 v_stacked v_stack) (fun (w_25 : Int32) (w_26 : List Int32) =>
    fX2_worth_317 N (fX2_worth_24 N n) x1 x2 x3 x4 x5 x6 x7 x8 v_stepCount w_25 v_steps w_26))
    else (if y_4 = (107 : Int32) then
    (mm_bd2 (fX2_push N x4 v_stacked v_stack) (fun (w_29 : Int32) (w_30 : List Int32) =>
    fX2_worth_317 N (fX2_worth_24 N n) x1 x2 x3 x4 x5 x6 x7 x8 v_stepCount w_29 v_steps w_30))
    else (if y_4 = (110 : Int32) then
    (mm_bd2 (fX2_push N x1 v_stacked v_stack) (fun (w_33 : Int32) (w_34 : List Int32) =>
    fX2_worth_317 N (fX2_worth_24 N n) x1 x2 x3 x4 x5 x6 x7 x8 v_stepCount w_33 v_steps w_34))
    else (if y_4 = (114 : Int32) then
    (mm_bd2 (fX2_push N x3 v_stacked v_stack) (fun (w_37 : Int32) (w_38 : List Int32) =>
    fX2_worth_317 N (fX2_worth_24 N n) x1 x2 x3 x4 x5 x6 x7 x8 v_stepCount w_37 v_steps w_38))
    else (if y_4 = (119 : Int32) then
    (mm_bd2 (fX2_push N x2 v_stacked v_stack) (fun (w_41 : Int32) (w_42 : List Int32) =>
    fX2_worth_317 N (fX2_worth_24 N n) x1 x2 x3 x4 x5 x6 x7 x8 v_stepCount w_41 v_steps w_42))
    else (if y_4 = (126 : Int32) then
    (mm_bd2 (fX2_pop N v_stacked v_stack) (fun (r_45 : Int32) (w_46 : Int32) =>
    mm_bd2 (fX2_push N (-r_45) w_46 v_stack) (fun (w_48 : Int32) (w_49 : List Int32) =>
    fX2_worth_317 N (fX2_worth_24 N n) x1 x2 x3 x4 x5 x6 x7 x8 v_stepCount w_48 v_steps w_49)))
    else (mm_ck (mm_inb x8 v_steps.length) (if (mm_ig v_steps x8) < (1000 : Int32) then
    (mm_bd2 (fX2_pop N v_stacked v_stack) (fun (r_53 : Int32) (w_54 : Int32) =>
    mm_ck (mm_inb x8 v_steps.length) (mm_bd2 (fX2_pop N w_54 v_stack) (fun (r_57 : Int32) (w_58 : Int32) =>
    mm_bd1 (fX2_joined N (mm_ig v_steps x8) r_57 r_53) (fun (r_60 : Int32) =>
    mm_bd2 (fX2_push N r_60 w_58 v_stack) (fun (w_62 : Int32) (w_63 : List Int32) =>
    fX2_worth_317 N (fX2_worth_24 N n) x1 x2 x3 x4 x5 x6 x7 x8 v_stepCount w_62 v_steps w_63))))))
    else (mm_ck (mm_inb x8 v_steps.length) (mm_bd2 (fX2_push N ((mm_ig v_steps x8) - (1000 : Int32)) v_stacked v_stack) (fun (w_66 : Int32) (w_67 : List Int32) =>
    fX2_worth_317 N (fX2_worth_24 N n) x1 x2 x3 x4 x5 x6 x7 x8 v_stepCount w_66 v_steps w_67)))))))))))))))))

set_option maxHeartbeats 4000000 in
set_option maxRecDepth 100000 in
theorem tX2_worth_24 {p : Program} {l : Launch} {e : Env} {s : State} {m : MethodId} {args : Array Value} {below : List Frame} {meth : Method} {c : Code} {D : va_G} {cI cL cS cH : ClassId} {A : Nat → Prop} {d : Nat} {a : Nat → Nat} (hd : 2 ≤ d) (C0 : mm_Cx p s m args meth c RX2 cX2_worth 11 (some .int) D (mm_T cI cL cS cH) A) (hA : ∀ q, s.heap.size ≤ q → A q) {v_size : Int32} {v_draftCount : Int32} {v_place : Int32} {v_fault : Int32} {v_tape : List Int32} {v_draft : List Int32} {r : Int32} {w_stacked : Int32} {w_stack : List Int32} (N : Nat)  : ∀ (n : Nat), ∀ (x1 : Int32) (x2 : Int32) (x3 : Int32) (x4 : Int32) (x5 : Int32) (x6 : Int32) (x7 : Int32) (x8 : Int32) (v_stepCount : Int32) (v_stacked : Int32) (v_steps : List Int32) (v_stack : List Int32) (H : Heap) (locs : List Loc) (ls : Array Slot), fX2_worth_24 N n x1 x2 x3 x4 x5 x6 x7 x8 v_stepCount v_stacked v_steps v_stack = some (r, w_stacked, w_stack) → va_P D mm_cl (wd_X2 cI cL cS cH a v_size v_stepCount v_draftCount v_place v_fault v_stacked v_tape v_steps v_draft v_stack) H → va_D A (wd_X2 cI cL cS cH a v_size v_stepCount v_draftCount v_place v_fault v_stacked v_tape v_steps v_draft v_stack) → va_S A s.heap H locs → lv_has ls 11 [(0, .ref (a 0)), (1, .int x1), (2, .int x2), (3, .int x3), (4, .int x4), (5, .int x5), (6, .int x6), (7, .int x7), (8, .int x8)] → W p l e (mm_rr d) s m args below meth c H locs 0 0 (mm_Z below D A (wd_X2 cI cL cS cH a v_size v_stepCount v_draftCount v_place v_fault w_stacked v_tape v_steps v_draft w_stack) (some (.int r)) args s) (F0 m 24 ls []) := by
  obtain ⟨hx, hb, hml, hown, hts, hr, hlocks, hK, hSt⟩ := id C0
  intro n
  induction n with
  | zero =>
    intro x1 x2 x3 x4 x5 x6 x7 x8 v_stepCount v_stacked v_steps v_stack H locs ls hf
    cases (show none = some _ from hf)
  | succ n ih =>
    intro x1 x2 x3 x4 x5 x6 x7 x8 v_stepCount v_stacked v_steps v_stack H locs ls hf hP hD hS hl
    unfold fX2_worth_24 at hf
    refine lv_iload hx hb dX2_worth_24 (lv_at hl 8 rfl) ?_
    refine lv_aload_n hx hb dX2_worth_26 rfl (lv_at hl 0 rfl) ?_
    refine mm_get C0 hP iw_X2 0 rfl rfl 3 (by decide) fl_X2_53 rfl dX2_worth_27 ?_
    refine lv_icmp_ge (tgt := 323) hx hb dX2_worth_30 (by decide) (fun c_2 => ?_) (fun c_2 => ?_)
    · have hf := mm_ip hf c_2
      refine lv_iconst (v := 0) hx hb dX2_worth_323 (by decide) ?_
      apply mm_sub3 hf
      exact mm_iret C0 hP hD hS dX2_worth_324
    · have hf := mm_in hf c_2
      refine lv_aload_n hx hb dX2_worth_33 rfl (lv_at hl 0 rfl) ?_
      refine mm_get C0 hP iw_X2 0 rfl rfl 2 (by decide) fl_X2_15 rfl dX2_worth_34 ?_
      refine lv_iload hx hb dX2_worth_37 (lv_at hl 8 rfl) ?_
      obtain ⟨h_3, hf⟩ := mm_cks hf
      refine mm_iald C0 hP 2 rfl h_3 dX2_worth_39 ?_
      refine lv_topi (fun y_4 ey_4 => ?_)
      have hf := mm_nms hf ey_4
      by_cases c_5 : y_4 = (33 : Int32)
      · have hf := mm_ip hf c_5
        refine lv_lookup (off := 189) (tgt := 229) hx hb dX2_worth_40 (by decide) (by rw [c_5]; first | done | rfl | decide) (by decide) ?_
        refine lv_aload_n hx hb dX2_worth_229 rfl (lv_at hl 0 rfl) ?_
        refine lv_aload_n hx hb dX2_worth_230 rfl (lv_at hl 0 rfl) ?_
        obtain ⟨r_6, w_7, hc_8, hf⟩ := mm_bd2s hf
        refine mm_callVF (q0 := 0) (ci := 2) (rest := [.ref (a 0)]) C0 lk_X2_94 (ctX2_pop (a := a) (d := d - 1) (by omega) hc_8) (by omega) rfl hl.1 rfl (mm_cat rfl) dX2_worth_231 hP hD hA hS rfl rfl (fun H locs hP hD hS => ?_)
        refine W.eq (g2 := F0 m 234 ls [.int r_6, .ref (a 0)]) rfl ?_
        refine lv_if_ne (tgt := 241) hx hb dX2_worth_234 (by decide) (fun c_9 => ?_) (fun c_9 => ?_)
        · have hf := mm_in hf c_9
          refine lv_iconst (v := 0) hx hb dX2_worth_241 (by decide) ?_
          exact tX2_worth_242 hd C0 hA N ih _ _ _ _ _ _ _ _ _ _ _ _ _ H locs ls hf hP hD hS (lv_sub hl [0, 1, 2, 3, 4, 5, 6, 7, 8] rfl)
        · have hf := mm_ip hf c_9
          refine lv_iconst (v := 1) hx hb dX2_worth_237 (by decide) ?_
          refine lv_goto (tgt := 242) hx hb dX2_worth_238 (by decide) ?_
          exact tX2_worth_242 hd C0 hA N ih _ _ _ _ _ _ _ _ _ _ _ _ _ H locs ls hf hP hD hS (lv_sub hl [0, 1, 2, 3, 4, 5, 6, 7, 8] rfl)
      · have hf := mm_in hf c_5
        by_cases c_10 : y_4 = (59 : Int32)
        · have hf := mm_ip hf c_10
          refine lv_lookup (off := 92) (tgt := 132) hx hb dX2_worth_40 (by decide) (by rw [c_10]; first | done | rfl | decide) (by decide) ?_
          refine lv_aload_n hx hb dX2_worth_132 rfl (lv_at hl 0 rfl) ?_
          obtain ⟨r_11, w_12, hc_13, hf⟩ := mm_bd2s hf
          refine mm_callVF (q0 := 0) (ci := 2) (rest := []) C0 lk_X2_94 (ctX2_pop (a := a) (d := d - 1) (by omega) hc_13) (by omega) rfl hl.1 rfl (mm_cat rfl) dX2_worth_133 hP hD hA hS rfl rfl (fun H locs hP hD hS => ?_)
          refine W.eq (g2 := F0 m 136 ls [.int r_11]) rfl ?_
          refine lv_istore (lv' := [(9, .int r_11), (0, .ref (a 0)), (1, .int x1), (2, .int x2), (3, .int x3), (4, .int x4), (5, .int x5), (6, .int x6), (7, .int x7), (8, .int x8)]) hx hb dX2_worth_136 hl (by decide) rfl (fun ls hl => ?_)
          refine lv_iload hx hb dX2_worth_138 (lv_at hl 8 rfl) ?_
          refine lv_if_eq (tgt := 155) hx hb dX2_worth_140 (by decide) (fun c_14 => ?_) (fun c_14 => ?_)
          · have hf := mm_ip hf c_14
            refine lv_iconst (v := 1) hx hb dX2_worth_155 (by decide) ?_
            refine lv_istore (lv' := [(7, .int (1 : Int32)), (9, .int r_11), (0, .ref (a 0)), (1, .int x1), (2, .int x2), (3, .int x3), (4, .int x4), (5, .int x5), (6, .int x6), (8, .int x8)]) hx hb dX2_worth_156 hl (by decide) rfl (fun ls hl => ?_)
            refine lv_goto (tgt := 317) hx hb dX2_worth_158 (by decide) ?_
            exact tX2_worth_317 hd C0 hA N ih _ _ _ _ _ _ _ _ _ _ _ _ H locs ls hf hP hD hS (lv_sub hl [2, 3, 4, 5, 6, 7, 8, 0, 9] rfl)
          · have hf := mm_in hf c_14
            refine lv_iconst (v := 0) hx hb dX2_worth_143 (by decide) ?_
            refine lv_bipush (v := 9) hx hb dX2_worth_144 (by decide) ?_
            refine lv_iload hx hb dX2_worth_146 (lv_at hl 0 rfl) ?_
            refine mm_mmin C0 lm_X2_97 (by omega) hl.1 (mm_cat rfl) dX2_worth_148 ?_
            refine mm_mmax C0 lm_X2_103 (by omega) hl.1 (mm_cat rfl) dX2_worth_151 ?_
            apply mm_sub3 hf
            exact mm_iret C0 hP hD hS dX2_worth_154
        · have hf := mm_in hf c_10
          by_cases c_15 : y_4 = (63 : Int32)
          · have hf := mm_ip hf c_15
            refine lv_lookup (off := 121) (tgt := 161) hx hb dX2_worth_40 (by decide) (by rw [c_15]; first | done | rfl | decide) (by decide) ?_
            refine lv_aload_n hx hb dX2_worth_161 rfl (lv_at hl 0 rfl) ?_
            obtain ⟨r_16, w_17, hc_18, hf⟩ := mm_bd2s hf
            refine mm_callVF (q0 := 0) (ci := 2) (rest := []) C0 lk_X2_94 (ctX2_pop (a := a) (d := d - 1) (by omega) hc_18) (by omega) rfl hl.1 rfl (mm_cat rfl) dX2_worth_162 hP hD hA hS rfl rfl (fun H locs hP hD hS => ?_)
            refine W.eq (g2 := F0 m 165 ls [.int r_16]) rfl ?_
            refine lv_if_eq (tgt := 172) hx hb dX2_worth_165 (by decide) (fun c_19 => ?_) (fun c_19 => ?_)
            · have hf := mm_ip hf c_19
              refine lv_iconst (v := 0) hx hb dX2_worth_172 (by decide) ?_
              exact tX2_worth_173 hd C0 hA N ih _ _ _ _ _ _ _ _ _ _ _ _ H locs ls hf hP hD hS (lv_sub hl [0, 1, 2, 3, 4, 5, 6, 8] rfl)
            · have hf := mm_in hf c_19
              refine lv_iconst (v := 1) hx hb dX2_worth_168 (by decide) ?_
              refine lv_goto (tgt := 173) hx hb dX2_worth_169 (by decide) ?_
              exact tX2_worth_173 hd C0 hA N ih _ _ _ _ _ _ _ _ _ _ _ _ H locs ls hf hP hD hS (lv_sub hl [0, 1, 2, 3, 4, 5, 6, 8] rfl)
          · have hf := mm_in hf c_15
            by_cases c_20 : y_4 = (98 : Int32)
            · have hf := mm_ip hf c_20
              refine lv_lookup (off := 180) (tgt := 220) hx hb dX2_worth_40 (by decide) (by rw [c_20]; first | done | rfl | decide) (by decide) ?_
              refine lv_aload_n hx hb dX2_worth_220 rfl (lv_at hl 0 rfl) ?_
              refine lv_iload hx hb dX2_worth_221 (lv_at hl 6 rfl) ?_
              obtain ⟨w_21, w_22, hc_23, hf⟩ := mm_bd2s hf
              refine mm_callVF (q0 := 0) (ci := 2) (rest := []) C0 lk_X2_106 (ctX2_push (a := a) (d := d - 1) (by omega) hc_23) (by omega) rfl hl.1 rfl (mm_cat rfl) dX2_worth_223 hP hD hA hS rfl rfl (fun H locs hP hD hS => ?_)
              refine W.eq (g2 := F0 m 226 ls []) rfl ?_
              refine lv_goto (tgt := 317) hx hb dX2_worth_226 (by decide) ?_
              exact tX2_worth_317 hd C0 hA N ih _ _ _ _ _ _ _ _ _ _ _ _ H locs ls hf hP hD hS (lv_sub hl [0, 1, 2, 3, 4, 5, 6, 7, 8] rfl)
            · have hf := mm_in hf c_20
              by_cases c_24 : y_4 = (102 : Int32)
              · have hf := mm_ip hf c_24
                refine lv_lookup (off := 171) (tgt := 211) hx hb dX2_worth_40 (by decide) (by rw [c_24]; first | done | rfl | decide) (by decide) ?_
                refine lv_aload_n hx hb dX2_worth_211 rfl (lv_at hl 0 rfl) ?_
                refine lv_iload hx hb dX2_worth_212 (lv_at hl 5 rfl) ?_
                obtain ⟨w_25, w_26, hc_27, hf⟩ := mm_bd2s hf
                refine mm_callVF (q0 := 0) (ci := 2) (rest := []) C0 lk_X2_106 (ctX2_push (a := a) (d := d - 1) (by omega) hc_27) (by omega) rfl hl.1 rfl (mm_cat rfl) dX2_worth_214 hP hD hA hS rfl rfl (fun H locs hP hD hS => ?_)
                refine W.eq (g2 := F0 m 217 ls []) rfl ?_
                refine lv_goto (tgt := 317) hx hb dX2_worth_217 (by decide) ?_
                exact tX2_worth_317 hd C0 hA N ih _ _ _ _ _ _ _ _ _ _ _ _ H locs ls hf hP hD hS (lv_sub hl [0, 1, 2, 3, 4, 5, 6, 7, 8] rfl)
              · have hf := mm_in hf c_24
                by_cases c_28 : y_4 = (107 : Int32)
                · have hf := mm_ip hf c_28
                  refine lv_lookup (off := 162) (tgt := 202) hx hb dX2_worth_40 (by decide) (by rw [c_28]; first | done | rfl | decide) (by decide) ?_
                  refine lv_aload_n hx hb dX2_worth_202 rfl (lv_at hl 0 rfl) ?_
                  refine lv_iload hx hb dX2_worth_203 (lv_at hl 4 rfl) ?_
                  obtain ⟨w_29, w_30, hc_31, hf⟩ := mm_bd2s hf
                  refine mm_callVF (q0 := 0) (ci := 2) (rest := []) C0 lk_X2_106 (ctX2_push (a := a) (d := d - 1) (by omega) hc_31) (by omega) rfl hl.1 rfl (mm_cat rfl) dX2_worth_205 hP hD hA hS rfl rfl (fun H locs hP hD hS => ?_)
                  refine W.eq (g2 := F0 m 208 ls []) rfl ?_
                  refine lv_goto (tgt := 317) hx hb dX2_worth_208 (by decide) ?_
                  exact tX2_worth_317 hd C0 hA N ih _ _ _ _ _ _ _ _ _ _ _ _ H locs ls hf hP hD hS (lv_sub hl [0, 1, 2, 3, 4, 5, 6, 7, 8] rfl)
                · have hf := mm_in hf c_28
                  by_cases c_32 : y_4 = (110 : Int32)
                  · have hf := mm_ip hf c_32
                    refine lv_lookup (off := 138) (tgt := 178) hx hb dX2_worth_40 (by decide) (by rw [c_32]; first | done | rfl | decide) (by decide) ?_
                    refine lv_aload_n hx hb dX2_worth_178 rfl (lv_at hl 0 rfl) ?_
                    refine lv_iload_n hx hb dX2_worth_179 rfl (lv_at hl 1 rfl) ?_
                    obtain ⟨w_33, w_34, hc_35, hf⟩ := mm_bd2s hf
                    refine mm_callVF (q0 := 0) (ci := 2) (rest := []) C0 lk_X2_106 (ctX2_push (a := a) (d := d - 1) (by omega) hc_35) (by omega) rfl hl.1 rfl (mm_cat rfl) dX2_worth_180 hP hD hA hS rfl rfl (fun H locs hP hD hS => ?_)
                    refine W.eq (g2 := F0 m 183 ls []) rfl ?_
                    refine lv_goto (tgt := 317) hx hb dX2_worth_183 (by decide) ?_
                    exact tX2_worth_317 hd C0 hA N ih _ _ _ _ _ _ _ _ _ _ _ _ H locs ls hf hP hD hS (lv_sub hl [0, 1, 2, 3, 4, 5, 6, 7, 8] rfl)
                  · have hf := mm_in hf c_32
                    by_cases c_36 : y_4 = (114 : Int32)
                    · have hf := mm_ip hf c_36
                      refine lv_lookup (off := 154) (tgt := 194) hx hb dX2_worth_40 (by decide) (by rw [c_36]; first | done | rfl | decide) (by decide) ?_
                      refine lv_aload_n hx hb dX2_worth_194 rfl (lv_at hl 0 rfl) ?_
                      refine lv_iload_n hx hb dX2_worth_195 rfl (lv_at hl 3 rfl) ?_
                      obtain ⟨w_37, w_38, hc_39, hf⟩ := mm_bd2s hf
                      refine mm_callVF (q0 := 0) (ci := 2) (rest := []) C0 lk_X2_106 (ctX2_push (a := a) (d := d - 1) (by omega) hc_39) (by omega) rfl hl.1 rfl (mm_cat rfl) dX2_worth_196 hP hD hA hS rfl rfl (fun H locs hP hD hS => ?_)
                      refine W.eq (g2 := F0 m 199 ls []) rfl ?_
                      refine lv_goto (tgt := 317) hx hb dX2_worth_199 (by decide) ?_
                      exact tX2_worth_317 hd C0 hA N ih _ _ _ _ _ _ _ _ _ _ _ _ H locs ls hf hP hD hS (lv_sub hl [0, 1, 2, 3, 4, 5, 6, 7, 8] rfl)
                    · have hf := mm_in hf c_36
                      by_cases c_40 : y_4 = (119 : Int32)
                      · have hf := mm_ip hf c_40
                        refine lv_lookup (off := 146) (tgt := 186) hx hb dX2_worth_40 (by decide) (by rw [c_40]; first | done | rfl | decide) (by decide) ?_
                        refine lv_aload_n hx hb dX2_worth_186 rfl (lv_at hl 0 rfl) ?_
                        refine lv_iload_n hx hb dX2_worth_187 rfl (lv_at hl 2 rfl) ?_
                        obtain ⟨w_41, w_42, hc_43, hf⟩ := mm_bd2s hf
                        refine mm_callVF (q0 := 0) (ci := 2) (rest := []) C0 lk_X2_106 (ctX2_push (a := a) (d := d - 1) (by omega) hc_43) (by omega) rfl hl.1 rfl (mm_cat rfl) dX2_worth_188 hP hD hA hS rfl rfl (fun H locs hP hD hS => ?_)
                        refine W.eq (g2 := F0 m 191 ls []) rfl ?_
                        refine lv_goto (tgt := 317) hx hb dX2_worth_191 (by decide) ?_
                        exact tX2_worth_317 hd C0 hA N ih _ _ _ _ _ _ _ _ _ _ _ _ H locs ls hf hP hD hS (lv_sub hl [0, 1, 2, 3, 4, 5, 6, 7, 8] rfl)
                      · have hf := mm_in hf c_40
                        by_cases c_44 : y_4 = (126 : Int32)
                        · have hf := mm_ip hf c_44
                          refine lv_lookup (off := 208) (tgt := 248) hx hb dX2_worth_40 (by decide) (by rw [c_44]; first | done | rfl | decide) (by decide) ?_
                          refine lv_aload_n hx hb dX2_worth_248 rfl (lv_at hl 0 rfl) ?_
                          refine lv_aload_n hx hb dX2_worth_249 rfl (lv_at hl 0 rfl) ?_
                          obtain ⟨r_45, w_46, hc_47, hf⟩ := mm_bd2s hf
                          refine mm_callVF (q0 := 0) (ci := 2) (rest := [.ref (a 0)]) C0 lk_X2_94 (ctX2_pop (a := a) (d := d - 1) (by omega) hc_47) (by omega) rfl hl.1 rfl (mm_cat rfl) dX2_worth_250 hP hD hA hS rfl rfl (fun H locs hP hD hS => ?_)
                          refine W.eq (g2 := F0 m 253 ls [.int r_45, .ref (a 0)]) rfl ?_
                          refine lv_ineg hx hb dX2_worth_253 ?_
                          obtain ⟨w_48, w_49, hc_50, hf⟩ := mm_bd2s hf
                          refine mm_callVF (q0 := 0) (ci := 2) (rest := []) C0 lk_X2_106 (ctX2_push (a := a) (d := d - 1) (by omega) hc_50) (by omega) rfl hl.1 rfl (mm_cat rfl) dX2_worth_254 hP hD hA hS rfl rfl (fun H locs hP hD hS => ?_)
                          refine W.eq (g2 := F0 m 257 ls []) rfl ?_
                          refine lv_goto (tgt := 317) hx hb dX2_worth_257 (by decide) ?_
                          exact tX2_worth_317 hd C0 hA N ih _ _ _ _ _ _ _ _ _ _ _ _ H locs ls hf hP hD hS (lv_sub hl [0, 1, 2, 3, 4, 5, 6, 7, 8] rfl)
                        · have hf := mm_in hf c_44
                          refine lv_lookup (off := 220) (tgt := 260) hx hb dX2_worth_40 (by decide) ((lv_osw c_5 (by decide)).trans ((lv_osw c_10 (by decide)).trans ((lv_osw c_15 (by decide)).trans ((lv_osw c_20 (by decide)).trans ((lv_osw c_24 (by decide)).trans ((lv_osw c_28 (by decide)).trans ((lv_osw c_32 (by decide)).trans ((lv_osw c_36 (by decide)).trans ((lv_osw c_40 (by decide)).trans ((lv_osw c_44 (by decide)).trans (rfl))))))))))) (by decide) ?_
                          refine lv_aload_n hx hb dX2_worth_260 rfl (lv_at hl 0 rfl) ?_
                          refine mm_get C0 hP iw_X2 0 rfl rfl 2 (by decide) fl_X2_15 rfl dX2_worth_261 ?_
                          refine lv_iload hx hb dX2_worth_264 (lv_at hl 8 rfl) ?_
                          obtain ⟨h_51, hf⟩ := mm_cks hf
                          refine mm_iald C0 hP 2 rfl h_51 dX2_worth_266 ?_
                          refine lv_sipush (v := 1000) hx hb dX2_worth_267 (by decide) ?_
                          refine lv_icmp_lt (tgt := 291) hx hb dX2_worth_270 (by decide) (fun c_52 => ?_) (fun c_52 => ?_)
                          · have hf := mm_ip hf c_52
                            refine lv_aload_n hx hb dX2_worth_291 rfl (lv_at hl 0 rfl) ?_
                            obtain ⟨r_53, w_54, hc_55, hf⟩ := mm_bd2s hf
                            refine mm_callVF (q0 := 0) (ci := 2) (rest := []) C0 lk_X2_94 (ctX2_pop (a := a) (d := d - 1) (by omega) hc_55) (by omega) rfl hl.1 rfl (mm_cat rfl) dX2_worth_292 hP hD hA hS rfl rfl (fun H locs hP hD hS => ?_)
                            refine W.eq (g2 := F0 m 295 ls [.int r_53]) rfl ?_
                            refine lv_istore (lv' := [(10, .int r_53), (0, .ref (a 0)), (1, .int x1), (2, .int x2), (3, .int x3), (4, .int x4), (5, .int x5), (6, .int x6), (7, .int x7), (8, .int x8)]) hx hb dX2_worth_295 hl (by decide) rfl (fun ls hl => ?_)
                            refine lv_aload_n hx hb dX2_worth_297 rfl (lv_at hl 1 rfl) ?_
                            refine lv_aload_n hx hb dX2_worth_298 rfl (lv_at hl 1 rfl) ?_
                            refine mm_get C0 hP iw_X2 0 rfl rfl 2 (by decide) fl_X2_15 rfl dX2_worth_299 ?_
                            refine lv_iload hx hb dX2_worth_302 (lv_at hl 9 rfl) ?_
                            obtain ⟨h_56, hf⟩ := mm_cks hf
                            refine mm_iald C0 hP 2 rfl h_56 dX2_worth_304 ?_
                            refine lv_aload_n hx hb dX2_worth_305 rfl (lv_at hl 1 rfl) ?_
                            obtain ⟨r_57, w_58, hc_59, hf⟩ := mm_bd2s hf
                            refine mm_callVF (q0 := 0) (ci := 2) (rest := [.int (mm_ig v_steps x8), .ref (a 0)]) C0 lk_X2_94 (ctX2_pop (a := a) (d := d - 1) (by omega) hc_59) (by omega) rfl hl.1 rfl (mm_cat rfl) dX2_worth_306 hP hD hA hS rfl rfl (fun H locs hP hD hS => ?_)
                            refine W.eq (g2 := F0 m 309 ls [.int r_57, .int (mm_ig v_steps x8), .ref (a 0)]) rfl ?_
                            refine lv_iload hx hb dX2_worth_309 (lv_at hl 0 rfl) ?_
                            obtain ⟨r_60, hc_61, hf⟩ := mm_bd1s hf
                            refine mm_callS0 (rest := [.ref (a 0)]) C0 lk_X2_109 (ctX2_joined (d := d - 1) (by omega) hc_61) (by omega) rfl hl.1 rfl (mm_cat rfl) dX2_worth_311 hP hD hA hS (fun H locs hP hS => ?_)
                            refine W.eq (g2 := F0 m 314 ls [.int r_60, .ref (a 0)]) rfl ?_
                            obtain ⟨w_62, w_63, hc_64, hf⟩ := mm_bd2s hf
                            refine mm_callVF (q0 := 0) (ci := 2) (rest := []) C0 lk_X2_106 (ctX2_push (a := a) (d := d - 1) (by omega) hc_64) (by omega) rfl hl.1 rfl (mm_cat rfl) dX2_worth_314 hP hD hA hS rfl rfl (fun H locs hP hD hS => ?_)
                            refine W.eq (g2 := F0 m 317 ls []) rfl ?_
                            exact tX2_worth_317 hd C0 hA N ih _ _ _ _ _ _ _ _ _ _ _ _ H locs ls hf hP hD hS (lv_sub hl [1, 2, 3, 4, 5, 6, 7, 8, 9] rfl)
                          · have hf := mm_in hf c_52
                            refine lv_aload_n hx hb dX2_worth_273 rfl (lv_at hl 0 rfl) ?_
                            refine lv_aload_n hx hb dX2_worth_274 rfl (lv_at hl 0 rfl) ?_
                            refine mm_get C0 hP iw_X2 0 rfl rfl 2 (by decide) fl_X2_15 rfl dX2_worth_275 ?_
                            refine lv_iload hx hb dX2_worth_278 (lv_at hl 8 rfl) ?_
                            obtain ⟨h_65, hf⟩ := mm_cks hf
                            refine mm_iald C0 hP 2 rfl h_65 dX2_worth_280 ?_
                            refine lv_sipush (v := 1000) hx hb dX2_worth_281 (by decide) ?_
                            refine lv_isub hx hb dX2_worth_284 ?_
                            obtain ⟨w_66, w_67, hc_68, hf⟩ := mm_bd2s hf
                            refine mm_callVF (q0 := 0) (ci := 2) (rest := []) C0 lk_X2_106 (ctX2_push (a := a) (d := d - 1) (by omega) hc_68) (by omega) rfl hl.1 rfl (mm_cat rfl) dX2_worth_285 hP hD hA hS rfl rfl (fun H locs hP hD hS => ?_)
                            refine W.eq (g2 := F0 m 288 ls []) rfl ?_
                            refine lv_goto (tgt := 317) hx hb dX2_worth_288 (by decide) ?_
                            exact tX2_worth_317 hd C0 hA N ih _ _ _ _ _ _ _ _ _ _ _ _ H locs ls hf hP hD hS (lv_sub hl [0, 1, 2, 3, 4, 5, 6, 7, 8] rfl)

def fX2_worth (N : Nat) (x1 : Int32) (x2 : Int32) (x3 : Int32) (x4 : Int32) (x5 : Int32) (x6 : Int32) (v_stepCount : Int32) (v_stacked : Int32) (v_steps : List Int32) (v_stack : List Int32) : Option (Int32 × Int32 × List Int32) :=
    if v_stepCount = 0 then
    (some (((1 : Int32) + ((2 : Int32) * x3)), v_stacked, v_stack))
    else (fX2_worth_24 N N x1 x2 x3 x4 x5 x6 (1 : Int32) (0 : Int32) v_stepCount (0 : Int32) v_steps v_stack)

set_option maxHeartbeats 4000000 in
set_option maxRecDepth 100000 in
theorem ctX2_worth {l : Launch} {D : va_G} {cI cL cS cH : ClassId} {a : Nat → Nat} {x1 : Int32} {x2 : Int32} {x3 : Int32} {x4 : Int32} {x5 : Int32} {x6 : Int32} {v_size : Int32} {v_stepCount : Int32} {v_draftCount : Int32} {v_place : Int32} {v_fault : Int32} {v_stacked : Int32} {v_tape : List Int32} {v_steps : List Int32} {v_draft : List Int32} {v_stack : List Int32} {r : Int32} {w_stacked : Int32} {w_stack : List Int32} {N d : Nat} (hd : 2 ≤ d) (hf : fX2_worth N x1 x2 x3 x4 x5 x6 v_stepCount v_stacked v_steps v_stack = some (r, w_stacked, w_stack)) : mm_Ct l yX2_worth cX2_worth 11 (some .int) d D (mm_T cI cL cS cH) [.ref (a 0), .int x1, .int x2, .int x3, .int x4, .int x5, .int x6] (wd_X2 cI cL cS cH a v_size v_stepCount v_draftCount v_place v_fault v_stacked v_tape v_steps v_draft v_stack) (wd_X2 cI cL cS cH a v_size v_stepCount v_draftCount v_place v_fault w_stacked v_tape v_steps v_draft w_stack) (some (.int r)) := by
  refine mm_of (by decide) (Nat.le_of_ble_eq_true rfl) ?_
  intro p e s m args below meth c A H locs ls C0 hP hD hA hS hl
  have C0 : mm_Cx p s m args meth c RX2 cX2_worth 11 (some .int) D (mm_T cI cL cS cH) A := C0
  obtain ⟨hx, hb, hml, hown, hts, hr, hlocks, hK, hSt⟩ := id C0
  have hl : lv_has ls 11 [(0, .ref (a 0)), (1, .int x1), (2, .int x2), (3, .int x3), (4, .int x4), (5, .int x5), (6, .int x6)] := hl
  unfold fX2_worth at hf
  refine lv_aload_n hx hb dX2_worth_0 rfl (lv_at hl 0 rfl) ?_
  refine mm_get C0 hP iw_X2 0 rfl rfl 3 (by decide) fl_X2_53 rfl dX2_worth_1 ?_
  refine lv_if_ne (tgt := 13) hx hb dX2_worth_4 (by decide) (fun c_1 => ?_) (fun c_1 => ?_)
  · have hf := mm_in hf c_1
    refine lv_aload_n hx hb dX2_worth_13 rfl (lv_at hl 0 rfl) ?_
    refine lv_iconst (v := 0) hx hb dX2_worth_14 (by decide) ?_
    refine mm_put C0 hP hD hS iw_X2 tyX2 tyX2_ok nmX2 0 rfl rfl 9 (by decide) fl_X2_91 rfl rfl rfl (Nat.le_of_ble_eq_true rfl) dX2_worth_15 (w2 := (wd_X2 cI cL cS cH a v_size v_stepCount v_draftCount v_place v_fault (0 : Int32) v_tape v_steps v_draft v_stack)) rfl (fun H locs hP hD hS => ?_)
    refine lv_iconst (v := 1) hx hb dX2_worth_18 (by decide) ?_
    refine lv_istore (lv' := [(7, .int (1 : Int32)), (0, .ref (a 0)), (1, .int x1), (2, .int x2), (3, .int x3), (4, .int x4), (5, .int x5), (6, .int x6)]) hx hb dX2_worth_19 hl (by decide) rfl (fun ls hl => ?_)
    refine lv_iconst (v := 0) hx hb dX2_worth_21 (by decide) ?_
    refine lv_istore (lv' := [(8, .int (0 : Int32)), (7, .int (1 : Int32)), (0, .ref (a 0)), (1, .int x1), (2, .int x2), (3, .int x3), (4, .int x4), (5, .int x5), (6, .int x6)]) hx hb dX2_worth_22 hl (by decide) rfl (fun ls hl => ?_)
    exact tX2_worth_24 hd C0 hA N  N _ _ _ _ _ _ _ _ _ _ _ _ H locs ls hf hP hD hS (lv_sub hl [2, 3, 4, 5, 6, 7, 8, 1, 0] rfl)
  · have hf := mm_ip hf c_1
    refine lv_iconst (v := 1) hx hb dX2_worth_7 (by decide) ?_
    refine lv_iconst (v := 2) hx hb dX2_worth_8 (by decide) ?_
    refine lv_iload_n hx hb dX2_worth_9 rfl (lv_at hl 3 rfl) ?_
    refine lv_imul hx hb dX2_worth_10 ?_
    refine lv_iadd hx hb dX2_worth_11 ?_
    apply mm_sub3 hf
    exact mm_iret C0 hP hD hS dX2_worth_12

theorem dX5_forgetLed_0 : decode cX5_forgetLed 0 = .ok (.aload_n 0, 1) := by decide +kernel
theorem dX5_forgetLed_1 : decode cX5_forgetLed 1 = .ok (.iconst 0, 1) := by decide +kernel
theorem dX5_forgetLed_2 : decode cX5_forgetLed 2 = .ok (.putfield 59, 3) := by decide +kernel
theorem dX5_forgetLed_5 : decode cX5_forgetLed 5 = .ok (.aload_n 0, 1) := by decide +kernel
theorem dX5_forgetLed_6 : decode cX5_forgetLed 6 = .ok (.iconst 0, 1) := by decide +kernel
theorem dX5_forgetLed_7 : decode cX5_forgetLed 7 = .ok (.putfield 62, 3) := by decide +kernel
theorem dX5_forgetLed_10 : decode cX5_forgetLed 10 = .ok (.aload_n 0, 1) := by decide +kernel
theorem dX5_forgetLed_11 : decode cX5_forgetLed 11 = .ok (.iconst 0, 1) := by decide +kernel
theorem dX5_forgetLed_12 : decode cX5_forgetLed 12 = .ok (.putfield 65, 3) := by decide +kernel
theorem dX5_forgetLed_15 : decode cX5_forgetLed 15 = .ok (.return_, 1) := by decide +kernel
def fX5_forgetLed (N : Nat) (v_folds : Int32) (v_wrong : Int32) (v_more : Int32) : Option (Int32 × Int32 × Int32) :=
    some ((0 : Int32), (0 : Int32), (0 : Int32))

set_option maxHeartbeats 4000000 in
set_option maxRecDepth 100000 in
theorem ctX5_forgetLed {l : Launch} {D : va_G} {cI cL cS cH : ClassId} {a : Nat → Nat}  {v_rows : Int32} {v_cols : Int32} {v_high : Int32} {v_wide : Int32} {v_folds : Int32} {v_wrong : Int32} {v_more : Int32} {v_rowOf : List Int32} {v_colOf : List Int32} {v_below : List Int32} {v_face : List Int32} {v_worn : List Int32} {v_last : List Int32} {v_bend : List Int32} {v_tall : List Int32} {w_folds : Int32} {w_wrong : Int32} {w_more : Int32} {N d : Nat} (hd : 1 ≤ d) (hf : fX5_forgetLed N v_folds v_wrong v_more = some (w_folds, w_wrong, w_more)) : mm_Ct l yX5_forgetLed cX5_forgetLed 1 none d D (mm_T cI cL cS cH) [.ref (a 0)] (wd_X5 cI cL cS cH a v_rows v_cols v_high v_wide v_folds v_wrong v_more v_rowOf v_colOf v_below v_face v_worn v_last v_bend v_tall) (wd_X5 cI cL cS cH a v_rows v_cols v_high v_wide w_folds w_wrong w_more v_rowOf v_colOf v_below v_face v_worn v_last v_bend v_tall) none := by
  refine mm_of (by decide) (Nat.le_of_ble_eq_true rfl) ?_
  intro p e s m args below meth c A H locs ls C0 hP hD hA hS hl
  have C0 : mm_Cx p s m args meth c RX5 cX5_forgetLed 1 none D (mm_T cI cL cS cH) A := C0
  obtain ⟨hx, hb, hml, hown, hts, hr, hlocks, hK, hSt⟩ := id C0
  have hl : lv_has ls 1 [(0, .ref (a 0))] := hl
  unfold fX5_forgetLed at hf
  refine lv_aload_n hx hb dX5_forgetLed_0 rfl (lv_at hl 0 rfl) ?_
  refine lv_iconst (v := 0) hx hb dX5_forgetLed_1 (by decide) ?_
  refine mm_put C0 hP hD hS iw_X5 tyX5 tyX5_ok nmX5 0 rfl rfl 4 (by decide) fl_X5_59 rfl rfl rfl (Nat.le_of_ble_eq_true rfl) dX5_forgetLed_2 (w2 := (wd_X5 cI cL cS cH a v_rows v_cols v_high v_wide (0 : Int32) v_wrong v_more v_rowOf v_colOf v_below v_face v_worn v_last v_bend v_tall)) rfl (fun H locs hP hD hS => ?_)
  refine lv_aload_n hx hb dX5_forgetLed_5 rfl (lv_at hl 0 rfl) ?_
  refine lv_iconst (v := 0) hx hb dX5_forgetLed_6 (by decide) ?_
  refine mm_put C0 hP hD hS iw_X5 tyX5 tyX5_ok nmX5 0 rfl rfl 5 (by decide) fl_X5_62 rfl rfl rfl (Nat.le_of_ble_eq_true rfl) dX5_forgetLed_7 (w2 := (wd_X5 cI cL cS cH a v_rows v_cols v_high v_wide (0 : Int32) (0 : Int32) v_more v_rowOf v_colOf v_below v_face v_worn v_last v_bend v_tall)) rfl (fun H locs hP hD hS => ?_)
  refine lv_aload_n hx hb dX5_forgetLed_10 rfl (lv_at hl 0 rfl) ?_
  refine lv_iconst (v := 0) hx hb dX5_forgetLed_11 (by decide) ?_
  refine mm_put C0 hP hD hS iw_X5 tyX5 tyX5_ok nmX5 0 rfl rfl 6 (by decide) fl_X5_65 rfl rfl rfl (Nat.le_of_ble_eq_true rfl) dX5_forgetLed_12 (w2 := (wd_X5 cI cL cS cH a v_rows v_cols v_high v_wide (0 : Int32) (0 : Int32) (0 : Int32) v_rowOf v_colOf v_below v_face v_worn v_last v_bend v_tall)) rfl (fun H locs hP hD hS => ?_)
  apply mm_sub3 hf
  exact mm_vret C0 hP hD hS dX5_forgetLed_15

theorem dX5_layOut_0 : decode cX5_layOut 0 = .ok (.aload_n 0, 1) := by decide +kernel
theorem dX5_layOut_1 : decode cX5_layOut 1 = .ok (.aload_n 0, 1) := by decide +kernel
theorem dX5_layOut_2 : decode cX5_layOut 2 = .ok (.getfield 40, 3) := by decide +kernel
theorem dX5_layOut_5 : decode cX5_layOut 5 = .ok (.putfield 68, 3) := by decide +kernel
theorem dX5_layOut_8 : decode cX5_layOut 8 = .ok (.aload_n 0, 1) := by decide +kernel
theorem dX5_layOut_9 : decode cX5_layOut 9 = .ok (.aload_n 0, 1) := by decide +kernel
theorem dX5_layOut_10 : decode cX5_layOut 10 = .ok (.getfield 44, 3) := by decide +kernel
theorem dX5_layOut_13 : decode cX5_layOut 13 = .ok (.putfield 71, 3) := by decide +kernel
theorem dX5_layOut_16 : decode cX5_layOut 16 = .ok (.iconst 0, 1) := by decide +kernel
theorem dX5_layOut_17 : decode cX5_layOut 17 = .ok (.istore_n 1, 1) := by decide +kernel
theorem dX5_layOut_18 : decode cX5_layOut 18 = .ok (.iconst 0, 1) := by decide +kernel
theorem dX5_layOut_19 : decode cX5_layOut 19 = .ok (.istore_n 2, 1) := by decide +kernel
theorem dX5_layOut_20 : decode cX5_layOut 20 = .ok (.iload_n 2, 1) := by decide +kernel
theorem dX5_layOut_21 : decode cX5_layOut 21 = .ok (.aload_n 0, 1) := by decide +kernel
theorem dX5_layOut_22 : decode cX5_layOut 22 = .ok (.getfield 40, 3) := by decide +kernel
theorem dX5_layOut_25 : decode cX5_layOut 25 = .ok (.if_icmp .ge 56, 3) := by decide +kernel
theorem dX5_layOut_28 : decode cX5_layOut 28 = .ok (.iconst 0, 1) := by decide +kernel
theorem dX5_layOut_29 : decode cX5_layOut 29 = .ok (.istore_n 3, 1) := by decide +kernel
theorem dX5_layOut_30 : decode cX5_layOut 30 = .ok (.iload_n 3, 1) := by decide +kernel
theorem dX5_layOut_31 : decode cX5_layOut 31 = .ok (.aload_n 0, 1) := by decide +kernel
theorem dX5_layOut_32 : decode cX5_layOut 32 = .ok (.getfield 44, 3) := by decide +kernel
theorem dX5_layOut_35 : decode cX5_layOut 35 = .ok (.if_icmp .ge 40, 3) := by decide +kernel
theorem dX5_layOut_38 : decode cX5_layOut 38 = .ok (.aload_n 0, 1) := by decide +kernel
theorem dX5_layOut_39 : decode cX5_layOut 39 = .ok (.getfield 9, 3) := by decide +kernel
theorem dX5_layOut_42 : decode cX5_layOut 42 = .ok (.iload_n 1, 1) := by decide +kernel
theorem dX5_layOut_43 : decode cX5_layOut 43 = .ok (.iload_n 2, 1) := by decide +kernel
theorem dX5_layOut_44 : decode cX5_layOut 44 = .ok (.iastore, 1) := by decide +kernel
theorem dX5_layOut_45 : decode cX5_layOut 45 = .ok (.aload_n 0, 1) := by decide +kernel
theorem dX5_layOut_46 : decode cX5_layOut 46 = .ok (.getfield 15, 3) := by decide +kernel
theorem dX5_layOut_49 : decode cX5_layOut 49 = .ok (.iload_n 1, 1) := by decide +kernel
theorem dX5_layOut_50 : decode cX5_layOut 50 = .ok (.iload_n 3, 1) := by decide +kernel
theorem dX5_layOut_51 : decode cX5_layOut 51 = .ok (.iastore, 1) := by decide +kernel
theorem dX5_layOut_52 : decode cX5_layOut 52 = .ok (.aload_n 0, 1) := by decide +kernel
theorem dX5_layOut_53 : decode cX5_layOut 53 = .ok (.getfield 18, 3) := by decide +kernel
theorem dX5_layOut_56 : decode cX5_layOut 56 = .ok (.iload_n 1, 1) := by decide +kernel
theorem dX5_layOut_57 : decode cX5_layOut 57 = .ok (.iconst 0, 1) := by decide +kernel
theorem dX5_layOut_58 : decode cX5_layOut 58 = .ok (.iastore, 1) := by decide +kernel
theorem dX5_layOut_59 : decode cX5_layOut 59 = .ok (.aload_n 0, 1) := by decide +kernel
theorem dX5_layOut_60 : decode cX5_layOut 60 = .ok (.getfield 21, 3) := by decide +kernel
theorem dX5_layOut_63 : decode cX5_layOut 63 = .ok (.iload_n 1, 1) := by decide +kernel
theorem dX5_layOut_64 : decode cX5_layOut 64 = .ok (.iconst 0, 1) := by decide +kernel
theorem dX5_layOut_65 : decode cX5_layOut 65 = .ok (.iastore, 1) := by decide +kernel
theorem dX5_layOut_66 : decode cX5_layOut 66 = .ok (.iinc 1 1, 3) := by decide +kernel
theorem dX5_layOut_69 : decode cX5_layOut 69 = .ok (.iinc 3 1, 3) := by decide +kernel
theorem dX5_layOut_72 : decode cX5_layOut 72 = .ok (.goto (-42), 3) := by decide +kernel
theorem dX5_layOut_75 : decode cX5_layOut 75 = .ok (.iinc 2 1, 3) := by decide +kernel
theorem dX5_layOut_78 : decode cX5_layOut 78 = .ok (.goto (-58), 3) := by decide +kernel
theorem dX5_layOut_81 : decode cX5_layOut 81 = .ok (.return_, 1) := by decide +kernel
def fX5_layOut_30 (N : Nat) (k_20 : Int32 → Int32 → Int32 → Int32 → Int32 → Int32 → List Int32 → List Int32 → List Int32 → List Int32 → Option (Int32 × Int32 × List Int32 × List Int32 × List Int32 × List Int32)) : Nat → Int32 → Int32 → Int32 → Int32 → Int32 → Int32 → Int32 → List Int32 → List Int32 → List Int32 → List Int32 → Option (Int32 × Int32 × List Int32 × List Int32 × List Int32 × List Int32)
  | 0 => fun _ _ _ _ _ _ _ _ _ _ _ => none
  | n + 1 => fun x1 x2 x3 v_rows v_cols v_high v_wide v_rowOf v_colOf v_below v_face =>
    if v_cols ≤ x3 then
    (mm_nm (x2 + (1 : Int32)) (fun (y_3 : Int32) =>
    k_20 x1 y_3 v_rows v_cols v_high v_wide v_rowOf v_colOf v_below v_face))
    else (mm_ck (mm_inb x1 v_rowOf.length) (mm_nm (mm_is v_rowOf x1 x2) (fun (l_5 : List Int32) =>
    mm_ck (mm_inb x1 v_colOf.length) (mm_nm (mm_is v_colOf x1 x3) (fun (l_7 : List Int32) =>
    mm_ck (mm_inb x1 v_below.length) (mm_nm (mm_is v_below x1 (0 : Int32)) (fun (l_9 : List Int32) =>
    mm_ck (mm_inb x1 v_face.length) (mm_nm (mm_is v_face x1 (0 : Int32)) (fun (l_11 : List Int32) =>
    mm_nm (x1 + (1 : Int32)) (fun (y_12 : Int32) =>
    mm_nm (x3 + (1 : Int32)) (fun (y_13 : Int32) =>
    fX5_layOut_30 N k_20 n y_12 x2 y_13 v_rows v_cols v_high v_wide l_5 l_7 l_9 l_11)))))))))))

set_option maxHeartbeats 4000000 in
set_option maxRecDepth 100000 in
theorem tX5_layOut_30 {p : Program} {l : Launch} {e : Env} {s : State} {m : MethodId} {args : Array Value} {below : List Frame} {meth : Method} {c : Code} {D : va_G} {cI cL cS cH : ClassId} {A : Nat → Prop} {d : Nat} {a : Nat → Nat} (hd : 1 ≤ d) (C0 : mm_Cx p s m args meth c RX5 cX5_layOut 4 none D (mm_T cI cL cS cH) A) (hA : ∀ q, s.heap.size ≤ q → A q) {v_folds : Int32} {v_wrong : Int32} {v_more : Int32} {v_worn : List Int32} {v_last : List Int32} {v_bend : List Int32} {v_tall : List Int32} {w_high : Int32} {w_wide : Int32} {w_rowOf : List Int32} {w_colOf : List Int32} {w_below : List Int32} {w_face : List Int32} (N : Nat) {k_20 : Int32 → Int32 → Int32 → Int32 → Int32 → Int32 → List Int32 → List Int32 → List Int32 → List Int32 → Option (Int32 × Int32 × List Int32 × List Int32 × List Int32 × List Int32)} (hk_20 : ∀ (x1 : Int32) (x2 : Int32) (v_rows : Int32) (v_cols : Int32) (v_high : Int32) (v_wide : Int32) (v_rowOf : List Int32) (v_colOf : List Int32) (v_below : List Int32) (v_face : List Int32) (H : Heap) (locs : List Loc) (ls : Array Slot), k_20 x1 x2 v_rows v_cols v_high v_wide v_rowOf v_colOf v_below v_face = some (w_high, w_wide, w_rowOf, w_colOf, w_below, w_face) → va_P D mm_cl (wd_X5 cI cL cS cH a v_rows v_cols v_high v_wide v_folds v_wrong v_more v_rowOf v_colOf v_below v_face v_worn v_last v_bend v_tall) H → va_D A (wd_X5 cI cL cS cH a v_rows v_cols v_high v_wide v_folds v_wrong v_more v_rowOf v_colOf v_below v_face v_worn v_last v_bend v_tall) → va_S A s.heap H locs → lv_has ls 4 [(0, .ref (a 0)), (1, .int x1), (2, .int x2)] → W p l e (mm_rr d) s m args below meth c H locs 0 0 (mm_Z below D A (wd_X5 cI cL cS cH a v_rows v_cols w_high w_wide v_folds v_wrong v_more w_rowOf w_colOf w_below w_face v_worn v_last v_bend v_tall) none args s) (F0 m 20 ls [])) : ∀ (n : Nat), ∀ (x1 : Int32) (x2 : Int32) (x3 : Int32) (v_rows : Int32) (v_cols : Int32) (v_high : Int32) (v_wide : Int32) (v_rowOf : List Int32) (v_colOf : List Int32) (v_below : List Int32) (v_face : List Int32) (H : Heap) (locs : List Loc) (ls : Array Slot), fX5_layOut_30 N k_20 n x1 x2 x3 v_rows v_cols v_high v_wide v_rowOf v_colOf v_below v_face = some (w_high, w_wide, w_rowOf, w_colOf, w_below, w_face) → va_P D mm_cl (wd_X5 cI cL cS cH a v_rows v_cols v_high v_wide v_folds v_wrong v_more v_rowOf v_colOf v_below v_face v_worn v_last v_bend v_tall) H → va_D A (wd_X5 cI cL cS cH a v_rows v_cols v_high v_wide v_folds v_wrong v_more v_rowOf v_colOf v_below v_face v_worn v_last v_bend v_tall) → va_S A s.heap H locs → lv_has ls 4 [(0, .ref (a 0)), (1, .int x1), (2, .int x2), (3, .int x3)] → W p l e (mm_rr d) s m args below meth c H locs 0 0 (mm_Z below D A (wd_X5 cI cL cS cH a v_rows v_cols w_high w_wide v_folds v_wrong v_more w_rowOf w_colOf w_below w_face v_worn v_last v_bend v_tall) none args s) (F0 m 30 ls []) := by
  obtain ⟨hx, hb, hml, hown, hts, hr, hlocks, hK, hSt⟩ := id C0
  intro n
  induction n with
  | zero =>
    intro x1 x2 x3 v_rows v_cols v_high v_wide v_rowOf v_colOf v_below v_face H locs ls hf
    cases (show none = some _ from hf)
  | succ n ih =>
    intro x1 x2 x3 v_rows v_cols v_high v_wide v_rowOf v_colOf v_below v_face H locs ls hf hP hD hS hl
    unfold fX5_layOut_30 at hf
    refine lv_iload_n hx hb dX5_layOut_30 rfl (lv_at hl 3 rfl) ?_
    refine lv_aload_n hx hb dX5_layOut_31 rfl (lv_at hl 0 rfl) ?_
    refine mm_get C0 hP iw_X5 0 rfl rfl 1 (by decide) fl_X5_44 rfl dX5_layOut_32 ?_
    refine lv_icmp_ge (tgt := 75) hx hb dX5_layOut_35 (by decide) (fun c_2 => ?_) (fun c_2 => ?_)
    · have hf := mm_ip hf c_2
      obtain ⟨y_3, ey_3⟩ : ∃ z : Int32, z = x2 + (1 : Int32) := ⟨_, rfl⟩
      have hf := mm_nms hf ey_3
      refine lv_iinc (v := y_3) (lv' := [(2, .int y_3), (0, .ref (a 0)), (1, .int x1), (3, .int x3)]) hx hb dX5_layOut_75 hl (k := 2) rfl (by rw [ey_3]; rfl) (by decide) rfl (fun ls hl => ?_)
      refine lv_goto (tgt := 20) hx hb dX5_layOut_78 (by decide) ?_
      exact hk_20 _ _ _ _ _ _ _ _ _ _ H locs ls hf hP hD hS (lv_sub hl [1, 2, 0] rfl)
    · have hf := mm_in hf c_2
      refine lv_aload_n hx hb dX5_layOut_38 rfl (lv_at hl 0 rfl) ?_
      refine mm_get C0 hP iw_X5 0 rfl rfl 7 (by decide) fl_X5_9 rfl dX5_layOut_39 ?_
      refine lv_iload_n hx hb dX5_layOut_42 rfl (lv_at hl 1 rfl) ?_
      refine lv_iload_n hx hb dX5_layOut_43 rfl (lv_at hl 2 rfl) ?_
      obtain ⟨h_4, hf⟩ := mm_cks hf
      refine mm_iast C0 hP hD hS 1 rfl h_4 dX5_layOut_44 (w2 := (wd_X5 cI cL cS cH a v_rows v_cols v_high v_wide v_folds v_wrong v_more (mm_is v_rowOf x1 x2) v_colOf v_below v_face v_worn v_last v_bend v_tall)) rfl (fun H locs hP hD hS => ?_)
      generalize el_5 : (mm_is v_rowOf x1 x2) = l_5 at hP hD
      have hf := mm_nms hf el_5.symm
      refine lv_aload_n hx hb dX5_layOut_45 rfl (lv_at hl 0 rfl) ?_
      refine mm_get C0 hP iw_X5 0 rfl rfl 8 (by decide) fl_X5_15 rfl dX5_layOut_46 ?_
      refine lv_iload_n hx hb dX5_layOut_49 rfl (lv_at hl 1 rfl) ?_
      refine lv_iload_n hx hb dX5_layOut_50 rfl (lv_at hl 3 rfl) ?_
      obtain ⟨h_6, hf⟩ := mm_cks hf
      refine mm_iast C0 hP hD hS 2 rfl h_6 dX5_layOut_51 (w2 := (wd_X5 cI cL cS cH a v_rows v_cols v_high v_wide v_folds v_wrong v_more l_5 (mm_is v_colOf x1 x3) v_below v_face v_worn v_last v_bend v_tall)) rfl (fun H locs hP hD hS => ?_)
      generalize el_7 : (mm_is v_colOf x1 x3) = l_7 at hP hD
      have hf := mm_nms hf el_7.symm
      refine lv_aload_n hx hb dX5_layOut_52 rfl (lv_at hl 0 rfl) ?_
      refine mm_get C0 hP iw_X5 0 rfl rfl 9 (by decide) fl_X5_18 rfl dX5_layOut_53 ?_
      refine lv_iload_n hx hb dX5_layOut_56 rfl (lv_at hl 1 rfl) ?_
      refine lv_iconst (v := 0) hx hb dX5_layOut_57 (by decide) ?_
      obtain ⟨h_8, hf⟩ := mm_cks hf
      refine mm_iast C0 hP hD hS 3 rfl h_8 dX5_layOut_58 (w2 := (wd_X5 cI cL cS cH a v_rows v_cols v_high v_wide v_folds v_wrong v_more l_5 l_7 (mm_is v_below x1 (0 : Int32)) v_face v_worn v_last v_bend v_tall)) rfl (fun H locs hP hD hS => ?_)
      generalize el_9 : (mm_is v_below x1 (0 : Int32)) = l_9 at hP hD
      have hf := mm_nms hf el_9.symm
      refine lv_aload_n hx hb dX5_layOut_59 rfl (lv_at hl 0 rfl) ?_
      refine mm_get C0 hP iw_X5 0 rfl rfl 10 (by decide) fl_X5_21 rfl dX5_layOut_60 ?_
      refine lv_iload_n hx hb dX5_layOut_63 rfl (lv_at hl 1 rfl) ?_
      refine lv_iconst (v := 0) hx hb dX5_layOut_64 (by decide) ?_
      obtain ⟨h_10, hf⟩ := mm_cks hf
      refine mm_iast C0 hP hD hS 4 rfl h_10 dX5_layOut_65 (w2 := (wd_X5 cI cL cS cH a v_rows v_cols v_high v_wide v_folds v_wrong v_more l_5 l_7 l_9 (mm_is v_face x1 (0 : Int32)) v_worn v_last v_bend v_tall)) rfl (fun H locs hP hD hS => ?_)
      generalize el_11 : (mm_is v_face x1 (0 : Int32)) = l_11 at hP hD
      have hf := mm_nms hf el_11.symm
      obtain ⟨y_12, ey_12⟩ : ∃ z : Int32, z = x1 + (1 : Int32) := ⟨_, rfl⟩
      have hf := mm_nms hf ey_12
      refine lv_iinc (v := y_12) (lv' := [(1, .int y_12), (0, .ref (a 0)), (2, .int x2), (3, .int x3)]) hx hb dX5_layOut_66 hl (k := 1) rfl (by rw [ey_12]; rfl) (by decide) rfl (fun ls hl => ?_)
      obtain ⟨y_13, ey_13⟩ : ∃ z : Int32, z = x3 + (1 : Int32) := ⟨_, rfl⟩
      have hf := mm_nms hf ey_13
      refine lv_iinc (v := y_13) (lv' := [(3, .int y_13), (1, .int y_12), (0, .ref (a 0)), (2, .int x2)]) hx hb dX5_layOut_69 hl (k := 3) rfl (by rw [ey_13]; rfl) (by decide) rfl (fun ls hl => ?_)
      refine lv_goto (tgt := 30) hx hb dX5_layOut_72 (by decide) ?_
      exact ih _ _ _ _ _ _ _ _ _ _ _ H locs ls hf hP hD hS (lv_sub hl [2, 1, 3, 0] rfl)

def fX5_layOut_20 (N : Nat)  : Nat → Int32 → Int32 → Int32 → Int32 → Int32 → Int32 → List Int32 → List Int32 → List Int32 → List Int32 → Option (Int32 × Int32 × List Int32 × List Int32 × List Int32 × List Int32)
  | 0 => fun _ _ _ _ _ _ _ _ _ _ => none
  | n + 1 => fun x1 x2 v_rows v_cols v_high v_wide v_rowOf v_colOf v_below v_face =>
    if v_rows ≤ x2 then
    (some (v_high, v_wide, v_rowOf, v_colOf, v_below, v_face))
    else (fX5_layOut_30 N (fX5_layOut_20 N n) N x1 x2 (0 : Int32) v_rows v_cols v_high v_wide v_rowOf v_colOf v_below v_face)

set_option maxHeartbeats 4000000 in
set_option maxRecDepth 100000 in
theorem tX5_layOut_20 {p : Program} {l : Launch} {e : Env} {s : State} {m : MethodId} {args : Array Value} {below : List Frame} {meth : Method} {c : Code} {D : va_G} {cI cL cS cH : ClassId} {A : Nat → Prop} {d : Nat} {a : Nat → Nat} (hd : 1 ≤ d) (C0 : mm_Cx p s m args meth c RX5 cX5_layOut 4 none D (mm_T cI cL cS cH) A) (hA : ∀ q, s.heap.size ≤ q → A q) {v_folds : Int32} {v_wrong : Int32} {v_more : Int32} {v_worn : List Int32} {v_last : List Int32} {v_bend : List Int32} {v_tall : List Int32} {w_high : Int32} {w_wide : Int32} {w_rowOf : List Int32} {w_colOf : List Int32} {w_below : List Int32} {w_face : List Int32} (N : Nat)  : ∀ (n : Nat), ∀ (x1 : Int32) (x2 : Int32) (v_rows : Int32) (v_cols : Int32) (v_high : Int32) (v_wide : Int32) (v_rowOf : List Int32) (v_colOf : List Int32) (v_below : List Int32) (v_face : List Int32) (H : Heap) (locs : List Loc) (ls : Array Slot), fX5_layOut_20 N n x1 x2 v_rows v_cols v_high v_wide v_rowOf v_colOf v_below v_face = some (w_high, w_wide, w_rowOf, w_colOf, w_below, w_face) → va_P D mm_cl (wd_X5 cI cL cS cH a v_rows v_cols v_high v_wide v_folds v_wrong v_more v_rowOf v_colOf v_below v_face v_worn v_last v_bend v_tall) H → va_D A (wd_X5 cI cL cS cH a v_rows v_cols v_high v_wide v_folds v_wrong v_more v_rowOf v_colOf v_below v_face v_worn v_last v_bend v_tall) → va_S A s.heap H locs → lv_has ls 4 [(0, .ref (a 0)), (1, .int x1), (2, .int x2)] → W p l e (mm_rr d) s m args below meth c H locs 0 0 (mm_Z below D A (wd_X5 cI cL cS cH a v_rows v_cols w_high w_wide v_folds v_wrong v_more w_rowOf w_colOf w_below w_face v_worn v_last v_bend v_tall) none args s) (F0 m 20 ls []) := by
  obtain ⟨hx, hb, hml, hown, hts, hr, hlocks, hK, hSt⟩ := id C0
  intro n
  induction n with
  | zero =>
    intro x1 x2 v_rows v_cols v_high v_wide v_rowOf v_colOf v_below v_face H locs ls hf
    cases (show none = some _ from hf)
  | succ n ih =>
    intro x1 x2 v_rows v_cols v_high v_wide v_rowOf v_colOf v_below v_face H locs ls hf hP hD hS hl
    unfold fX5_layOut_20 at hf
    refine lv_iload_n hx hb dX5_layOut_20 rfl (lv_at hl 2 rfl) ?_
    refine lv_aload_n hx hb dX5_layOut_21 rfl (lv_at hl 0 rfl) ?_
    refine mm_get C0 hP iw_X5 0 rfl rfl 0 (by decide) fl_X5_40 rfl dX5_layOut_22 ?_
    refine lv_icmp_ge (tgt := 81) hx hb dX5_layOut_25 (by decide) (fun c_1 => ?_) (fun c_1 => ?_)
    · have hf := mm_ip hf c_1
      apply mm_sub6 hf
      exact mm_vret C0 hP hD hS dX5_layOut_81
    · have hf := mm_in hf c_1
      refine lv_iconst (v := 0) hx hb dX5_layOut_28 (by decide) ?_
      refine lv_istore_n (lv' := [(3, .int (0 : Int32)), (0, .ref (a 0)), (1, .int x1), (2, .int x2)]) hx hb dX5_layOut_29 rfl hl (by decide) rfl (fun ls hl => ?_)
      exact tX5_layOut_30 hd C0 hA N ih N _ _ _ _ _ _ _ _ _ _ _ H locs ls hf hP hD hS (lv_sub hl [1, 2, 3, 0] rfl)

def fX5_layOut (N : Nat) (v_rows : Int32) (v_cols : Int32) (v_high : Int32) (v_wide : Int32) (v_rowOf : List Int32) (v_colOf : List Int32) (v_below : List Int32) (v_face : List Int32) : Option (Int32 × Int32 × List Int32 × List Int32 × List Int32 × List Int32) :=
    fX5_layOut_20 N N (0 : Int32) (0 : Int32) v_rows v_cols v_rows v_cols v_rowOf v_colOf v_below v_face

set_option maxHeartbeats 4000000 in
set_option maxRecDepth 100000 in
theorem ctX5_layOut {l : Launch} {D : va_G} {cI cL cS cH : ClassId} {a : Nat → Nat}  {v_rows : Int32} {v_cols : Int32} {v_high : Int32} {v_wide : Int32} {v_folds : Int32} {v_wrong : Int32} {v_more : Int32} {v_rowOf : List Int32} {v_colOf : List Int32} {v_below : List Int32} {v_face : List Int32} {v_worn : List Int32} {v_last : List Int32} {v_bend : List Int32} {v_tall : List Int32} {w_high : Int32} {w_wide : Int32} {w_rowOf : List Int32} {w_colOf : List Int32} {w_below : List Int32} {w_face : List Int32} {N d : Nat} (hd : 1 ≤ d) (hf : fX5_layOut N v_rows v_cols v_high v_wide v_rowOf v_colOf v_below v_face = some (w_high, w_wide, w_rowOf, w_colOf, w_below, w_face)) : mm_Ct l yX5_layOut cX5_layOut 4 none d D (mm_T cI cL cS cH) [.ref (a 0)] (wd_X5 cI cL cS cH a v_rows v_cols v_high v_wide v_folds v_wrong v_more v_rowOf v_colOf v_below v_face v_worn v_last v_bend v_tall) (wd_X5 cI cL cS cH a v_rows v_cols w_high w_wide v_folds v_wrong v_more w_rowOf w_colOf w_below w_face v_worn v_last v_bend v_tall) none := by
  refine mm_of (by decide) (Nat.le_of_ble_eq_true rfl) ?_
  intro p e s m args below meth c A H locs ls C0 hP hD hA hS hl
  have C0 : mm_Cx p s m args meth c RX5 cX5_layOut 4 none D (mm_T cI cL cS cH) A := C0
  obtain ⟨hx, hb, hml, hown, hts, hr, hlocks, hK, hSt⟩ := id C0
  have hl : lv_has ls 4 [(0, .ref (a 0))] := hl
  unfold fX5_layOut at hf
  refine lv_aload_n hx hb dX5_layOut_0 rfl (lv_at hl 0 rfl) ?_
  refine lv_aload_n hx hb dX5_layOut_1 rfl (lv_at hl 0 rfl) ?_
  refine mm_get C0 hP iw_X5 0 rfl rfl 0 (by decide) fl_X5_40 rfl dX5_layOut_2 ?_
  refine mm_put C0 hP hD hS iw_X5 tyX5 tyX5_ok nmX5 0 rfl rfl 2 (by decide) fl_X5_68 rfl rfl rfl (Nat.le_of_ble_eq_true rfl) dX5_layOut_5 (w2 := (wd_X5 cI cL cS cH a v_rows v_cols v_rows v_wide v_folds v_wrong v_more v_rowOf v_colOf v_below v_face v_worn v_last v_bend v_tall)) rfl (fun H locs hP hD hS => ?_)
  refine lv_aload_n hx hb dX5_layOut_8 rfl (lv_at hl 0 rfl) ?_
  refine lv_aload_n hx hb dX5_layOut_9 rfl (lv_at hl 0 rfl) ?_
  refine mm_get C0 hP iw_X5 0 rfl rfl 1 (by decide) fl_X5_44 rfl dX5_layOut_10 ?_
  refine mm_put C0 hP hD hS iw_X5 tyX5 tyX5_ok nmX5 0 rfl rfl 3 (by decide) fl_X5_71 rfl rfl rfl (Nat.le_of_ble_eq_true rfl) dX5_layOut_13 (w2 := (wd_X5 cI cL cS cH a v_rows v_cols v_rows v_cols v_folds v_wrong v_more v_rowOf v_colOf v_below v_face v_worn v_last v_bend v_tall)) rfl (fun H locs hP hD hS => ?_)
  refine lv_iconst (v := 0) hx hb dX5_layOut_16 (by decide) ?_
  refine lv_istore_n (lv' := [(1, .int (0 : Int32)), (0, .ref (a 0))]) hx hb dX5_layOut_17 rfl hl (by decide) rfl (fun ls hl => ?_)
  refine lv_iconst (v := 0) hx hb dX5_layOut_18 (by decide) ?_
  refine lv_istore_n (lv' := [(2, .int (0 : Int32)), (1, .int (0 : Int32)), (0, .ref (a 0))]) hx hb dX5_layOut_19 rfl hl (by decide) rfl (fun ls hl => ?_)
  exact tX5_layOut_20 hd C0 hA N  N _ _ _ _ _ _ _ _ _ _ H locs ls hf hP hD hS (lv_sub hl [2, 1, 0] rfl)

theorem dJ7_fill_53178_0 : decode cJ7_fill_53178 0 = .ok (.iconst 0, 1) := by decide +kernel
theorem dJ7_fill_53178_1 : decode cJ7_fill_53178 1 = .ok (.istore_n 2, 1) := by decide +kernel
theorem dJ7_fill_53178_2 : decode cJ7_fill_53178 2 = .ok (.aload_n 0, 1) := by decide +kernel
theorem dJ7_fill_53178_3 : decode cJ7_fill_53178 3 = .ok (.arraylength, 1) := by decide +kernel
theorem dJ7_fill_53178_4 : decode cJ7_fill_53178 4 = .ok (.istore_n 3, 1) := by decide +kernel
theorem dJ7_fill_53178_5 : decode cJ7_fill_53178 5 = .ok (.iload_n 2, 1) := by decide +kernel
theorem dJ7_fill_53178_6 : decode cJ7_fill_53178 6 = .ok (.iload_n 3, 1) := by decide +kernel
theorem dJ7_fill_53178_7 : decode cJ7_fill_53178 7 = .ok (.if_icmp .ge 13, 3) := by decide +kernel
theorem dJ7_fill_53178_10 : decode cJ7_fill_53178 10 = .ok (.aload_n 0, 1) := by decide +kernel
theorem dJ7_fill_53178_11 : decode cJ7_fill_53178 11 = .ok (.iload_n 2, 1) := by decide +kernel
theorem dJ7_fill_53178_12 : decode cJ7_fill_53178 12 = .ok (.iload_n 1, 1) := by decide +kernel
theorem dJ7_fill_53178_13 : decode cJ7_fill_53178 13 = .ok (.iastore, 1) := by decide +kernel
theorem dJ7_fill_53178_14 : decode cJ7_fill_53178 14 = .ok (.iinc 2 1, 3) := by decide +kernel
theorem dJ7_fill_53178_17 : decode cJ7_fill_53178 17 = .ok (.goto (-12), 3) := by decide +kernel
theorem dJ7_fill_53178_20 : decode cJ7_fill_53178 20 = .ok (.return_, 1) := by decide +kernel
def fJ7_fill_53178_5 (N : Nat)  : Nat → Int32 → Int32 → Int32 → List Int32 → Option (List Int32)
  | 0 => fun _ _ _ _ => none
  | n + 1 => fun x1 x2 x3 p0_row =>
    if x3 ≤ x2 then
    (some (p0_row))
    else (mm_ck (mm_inb x2 p0_row.length) (mm_nm (mm_is p0_row x2 x1) (fun (l_4 : List Int32) =>
    mm_nm (x2 + (1 : Int32)) (fun (y_5 : Int32) =>
    fJ7_fill_53178_5 N n x1 y_5 x3 l_4))))

set_option maxHeartbeats 4000000 in
set_option maxRecDepth 100000 in
theorem tJ7_fill_53178_5 {p : Program} {l : Launch} {e : Env} {s : State} {m : MethodId} {args : Array Value} {below : List Frame} {meth : Method} {c : Code} {D : va_G} {cI cL cS cH : ClassId} {A : Nat → Prop} {d : Nat} {a : Nat → Nat} (hd : 1 ≤ d) (C0 : mm_Cx p s m args meth c RJ7 cJ7_fill_53178 4 none D (mm_T cI cL cS cH) A) (hA : ∀ q, s.heap.size ≤ q → A q)  {wp0_row : List Int32} (N : Nat)  : ∀ (n : Nat), ∀ (x1 : Int32) (x2 : Int32) (x3 : Int32) (p0_row : List Int32) (H : Heap) (locs : List Loc) (ls : Array Slot), fJ7_fill_53178_5 N n x1 x2 x3 p0_row = some wp0_row → va_P D mm_cl ([(a 0, mm_li cI p0_row)]) H → va_D A ([(a 0, mm_li cI p0_row)]) → va_S A s.heap H locs → lv_has ls 4 [(0, .ref (a 0)), (1, .int x1), (2, .int x2), (3, .int x3)] → W p l e (mm_rr d) s m args below meth c H locs 0 0 (mm_Z below D A ([(a 0, mm_li cI wp0_row)]) none args s) (F0 m 5 ls []) := by
  obtain ⟨hx, hb, hml, hown, hts, hr, hlocks, hK, hSt⟩ := id C0
  intro n
  induction n with
  | zero =>
    intro x1 x2 x3 p0_row H locs ls hf
    cases (show none = some _ from hf)
  | succ n ih =>
    intro x1 x2 x3 p0_row H locs ls hf hP hD hS hl
    unfold fJ7_fill_53178_5 at hf
    refine lv_iload_n hx hb dJ7_fill_53178_5 rfl (lv_at hl 2 rfl) ?_
    refine lv_iload_n hx hb dJ7_fill_53178_6 rfl (lv_at hl 3 rfl) ?_
    refine lv_icmp_ge (tgt := 20) hx hb dJ7_fill_53178_7 (by decide) (fun c_2 => ?_) (fun c_2 => ?_)
    · have hf := mm_ip hf c_2
      obtain rfl := mm_inj1 hf
      exact mm_vret C0 hP hD hS dJ7_fill_53178_20
    · have hf := mm_in hf c_2
      refine lv_aload_n hx hb dJ7_fill_53178_10 rfl (lv_at hl 0 rfl) ?_
      refine lv_iload_n hx hb dJ7_fill_53178_11 rfl (lv_at hl 2 rfl) ?_
      refine lv_iload_n hx hb dJ7_fill_53178_12 rfl (lv_at hl 1 rfl) ?_
      obtain ⟨h_3, hf⟩ := mm_cks hf
      refine mm_iast C0 hP hD hS 0 rfl h_3 dJ7_fill_53178_13 (w2 := ([(a 0, mm_li cI (mm_is p0_row x2 x1))])) rfl (fun H locs hP hD hS => ?_)
      generalize el_4 : (mm_is p0_row x2 x1) = l_4 at hP hD
      have hf := mm_nms hf el_4.symm
      obtain ⟨y_5, ey_5⟩ : ∃ z : Int32, z = x2 + (1 : Int32) := ⟨_, rfl⟩
      have hf := mm_nms hf ey_5
      refine lv_iinc (v := y_5) (lv' := [(2, .int y_5), (0, .ref (a 0)), (1, .int x1), (3, .int x3)]) hx hb dJ7_fill_53178_14 hl (k := 2) rfl (by rw [ey_5]; rfl) (by decide) rfl (fun ls hl => ?_)
      refine lv_goto (tgt := 5) hx hb dJ7_fill_53178_17 (by decide) ?_
      exact ih _ _ _ _ H locs ls hf hP hD hS (lv_sub hl [1, 2, 0, 3] rfl)

def fJ7_fill_53178 (N : Nat) (x1 : Int32) (p0_row : List Int32) : Option (List Int32) :=
    mm_nm ((Int32.ofNat p0_row.length)) (fun (y_1 : Int32) =>
    fJ7_fill_53178_5 N N x1 (0 : Int32) y_1 p0_row)

set_option maxHeartbeats 4000000 in
set_option maxRecDepth 100000 in
theorem ctJ7_fill_53178 {l : Launch} {D : va_G} {cI cL cS cH : ClassId} {a : Nat → Nat} {x1 : Int32} {p0_row : List Int32} {wp0_row : List Int32} {N d : Nat} (hd : 1 ≤ d) (hf : fJ7_fill_53178 N x1 p0_row = some wp0_row) : mm_Ct l yJ7_fill_53178 cJ7_fill_53178 4 none d D (mm_T cI cL cS cH) [.ref (a 0), .int x1] ([(a 0, mm_li cI p0_row)]) ([(a 0, mm_li cI wp0_row)]) none := by
  refine mm_of (by decide) (Nat.le_of_ble_eq_true rfl) ?_
  intro p e s m args below meth c A H locs ls C0 hP hD hA hS hl
  have C0 : mm_Cx p s m args meth c RJ7 cJ7_fill_53178 4 none D (mm_T cI cL cS cH) A := C0
  obtain ⟨hx, hb, hml, hown, hts, hr, hlocks, hK, hSt⟩ := id C0
  have hl : lv_has ls 4 [(0, .ref (a 0)), (1, .int x1)] := hl
  unfold fJ7_fill_53178 at hf
  refine lv_iconst (v := 0) hx hb dJ7_fill_53178_0 (by decide) ?_
  refine lv_istore_n (lv' := [(2, .int (0 : Int32)), (0, .ref (a 0)), (1, .int x1)]) hx hb dJ7_fill_53178_1 rfl hl (by decide) rfl (fun ls hl => ?_)
  refine lv_aload_n hx hb dJ7_fill_53178_2 rfl (lv_at hl 1 rfl) ?_
  refine mm_ilen C0 hP 0 rfl dJ7_fill_53178_3 ?_
  refine lv_topi (fun y_1 ey_1 => ?_)
  have hf := mm_nms hf ey_1
  refine lv_istore_n (lv' := [(3, .int y_1), (2, .int (0 : Int32)), (0, .ref (a 0)), (1, .int x1)]) hx hb dJ7_fill_53178_4 rfl hl (by decide) rfl (fun ls hl => ?_)
  exact tJ7_fill_53178_5 hd C0 hA N  N _ _ _ _ H locs ls hf hP hD hS (lv_sub hl [2, 3, 1, 0] rfl)

theorem dX5_renew_0 : decode cX5_renew 0 = .ok (.aload_n 0, 1) := by decide +kernel
theorem dX5_renew_1 : decode cX5_renew 1 = .ok (.iload_n 1, 1) := by decide +kernel
theorem dX5_renew_2 : decode cX5_renew 2 = .ok (.putfield 40, 3) := by decide +kernel
theorem dX5_renew_5 : decode cX5_renew 5 = .ok (.aload_n 0, 1) := by decide +kernel
theorem dX5_renew_6 : decode cX5_renew 6 = .ok (.iload_n 2, 1) := by decide +kernel
theorem dX5_renew_7 : decode cX5_renew 7 = .ok (.putfield 44, 3) := by decide +kernel
theorem dX5_renew_10 : decode cX5_renew 10 = .ok (.aload_n 0, 1) := by decide +kernel
theorem dX5_renew_11 : decode cX5_renew 11 = .ok (.getfield 24, 3) := by decide +kernel
theorem dX5_renew_14 : decode cX5_renew 14 = .ok (.iconst 0, 1) := by decide +kernel
theorem dX5_renew_15 : decode cX5_renew 15 = .ok (.invokestatic 47, 3) := by decide +kernel
theorem dX5_renew_18 : decode cX5_renew 18 = .ok (.aload_n 0, 1) := by decide +kernel
theorem dX5_renew_19 : decode cX5_renew 19 = .ok (.getfield 27, 3) := by decide +kernel
theorem dX5_renew_22 : decode cX5_renew 22 = .ok (.iconst 0, 1) := by decide +kernel
theorem dX5_renew_23 : decode cX5_renew 23 = .ok (.invokestatic 47, 3) := by decide +kernel
theorem dX5_renew_26 : decode cX5_renew 26 = .ok (.aload_n 0, 1) := by decide +kernel
theorem dX5_renew_27 : decode cX5_renew 27 = .ok (.invokevirtual 53, 3) := by decide +kernel
theorem dX5_renew_30 : decode cX5_renew 30 = .ok (.aload_n 0, 1) := by decide +kernel
theorem dX5_renew_31 : decode cX5_renew 31 = .ok (.invokevirtual 56, 3) := by decide +kernel
theorem dX5_renew_34 : decode cX5_renew 34 = .ok (.return_, 1) := by decide +kernel
def fX5_renew (N : Nat) (x1 : Int32) (x2 : Int32) (v_rows : Int32) (v_cols : Int32) (v_high : Int32) (v_wide : Int32) (v_folds : Int32) (v_wrong : Int32) (v_more : Int32) (v_rowOf : List Int32) (v_colOf : List Int32) (v_below : List Int32) (v_face : List Int32) (v_worn : List Int32) (v_last : List Int32) : Option (Int32 × Int32 × Int32 × Int32 × Int32 × Int32 × Int32 × List Int32 × List Int32 × List Int32 × List Int32 × List Int32 × List Int32) :=
    mm_bd1 (fJ7_fill_53178 N (0 : Int32) v_worn) (fun (w_1 : List Int32) =>
    mm_bd1 (fJ7_fill_53178 N (0 : Int32) v_last) (fun (w_3 : List Int32) =>
    mm_bd3 (fX5_forgetLed N v_folds v_wrong v_more) (fun (w_5 : Int32) (w_6 : Int32) (w_7 : Int32) =>
    mm_bd6 (fX5_layOut N x1 x2 v_high v_wide v_rowOf v_colOf v_below v_face) (fun (w_9 : Int32) (w_10 : Int32) (w_11 : List Int32) (w_12 : List Int32) (w_13 : List Int32) (w_14 : List Int32) =>
    some (x1, x2, w_9, w_10, w_5, w_6, w_7, w_11, w_12, w_13, w_14, w_1, w_3)))))

set_option maxHeartbeats 4000000 in
set_option maxRecDepth 100000 in
theorem ctX5_renew {l : Launch} {D : va_G} {cI cL cS cH : ClassId} {a : Nat → Nat} {x1 : Int32} {x2 : Int32} {v_rows : Int32} {v_cols : Int32} {v_high : Int32} {v_wide : Int32} {v_folds : Int32} {v_wrong : Int32} {v_more : Int32} {v_rowOf : List Int32} {v_colOf : List Int32} {v_below : List Int32} {v_face : List Int32} {v_worn : List Int32} {v_last : List Int32} {v_bend : List Int32} {v_tall : List Int32} {w_rows : Int32} {w_cols : Int32} {w_high : Int32} {w_wide : Int32} {w_folds : Int32} {w_wrong : Int32} {w_more : Int32} {w_rowOf : List Int32} {w_colOf : List Int32} {w_below : List Int32} {w_face : List Int32} {w_worn : List Int32} {w_last : List Int32} {N d : Nat} (hd : 2 ≤ d) (hf : fX5_renew N x1 x2 v_rows v_cols v_high v_wide v_folds v_wrong v_more v_rowOf v_colOf v_below v_face v_worn v_last = some (w_rows, w_cols, w_high, w_wide, w_folds, w_wrong, w_more, w_rowOf, w_colOf, w_below, w_face, w_worn, w_last)) : mm_Ct l yX5_renew cX5_renew 3 none d D (mm_T cI cL cS cH) [.ref (a 0), .int x1, .int x2] (wd_X5 cI cL cS cH a v_rows v_cols v_high v_wide v_folds v_wrong v_more v_rowOf v_colOf v_below v_face v_worn v_last v_bend v_tall) (wd_X5 cI cL cS cH a w_rows w_cols w_high w_wide w_folds w_wrong w_more w_rowOf w_colOf w_below w_face w_worn w_last v_bend v_tall) none := by
  refine mm_of (by decide) (Nat.le_of_ble_eq_true rfl) ?_
  intro p e s m args below meth c A H locs ls C0 hP hD hA hS hl
  have C0 : mm_Cx p s m args meth c RX5 cX5_renew 3 none D (mm_T cI cL cS cH) A := C0
  obtain ⟨hx, hb, hml, hown, hts, hr, hlocks, hK, hSt⟩ := id C0
  have hl : lv_has ls 3 [(0, .ref (a 0)), (1, .int x1), (2, .int x2)] := hl
  unfold fX5_renew at hf
  refine lv_aload_n hx hb dX5_renew_0 rfl (lv_at hl 0 rfl) ?_
  refine lv_iload_n hx hb dX5_renew_1 rfl (lv_at hl 1 rfl) ?_
  refine mm_put C0 hP hD hS iw_X5 tyX5 tyX5_ok nmX5 0 rfl rfl 0 (by decide) fl_X5_40 rfl rfl rfl (Nat.le_of_ble_eq_true rfl) dX5_renew_2 (w2 := (wd_X5 cI cL cS cH a x1 v_cols v_high v_wide v_folds v_wrong v_more v_rowOf v_colOf v_below v_face v_worn v_last v_bend v_tall)) rfl (fun H locs hP hD hS => ?_)
  refine lv_aload_n hx hb dX5_renew_5 rfl (lv_at hl 0 rfl) ?_
  refine lv_iload_n hx hb dX5_renew_6 rfl (lv_at hl 2 rfl) ?_
  refine mm_put C0 hP hD hS iw_X5 tyX5 tyX5_ok nmX5 0 rfl rfl 1 (by decide) fl_X5_44 rfl rfl rfl (Nat.le_of_ble_eq_true rfl) dX5_renew_7 (w2 := (wd_X5 cI cL cS cH a x1 x2 v_high v_wide v_folds v_wrong v_more v_rowOf v_colOf v_below v_face v_worn v_last v_bend v_tall)) rfl (fun H locs hP hD hS => ?_)
  refine lv_aload_n hx hb dX5_renew_10 rfl (lv_at hl 0 rfl) ?_
  refine mm_get C0 hP iw_X5 0 rfl rfl 11 (by decide) fl_X5_24 rfl dX5_renew_11 ?_
  refine lv_iconst (v := 0) hx hb dX5_renew_14 (by decide) ?_
  obtain ⟨w_1, hc_2, hf⟩ := mm_bd1s hf
  refine mm_callT (w2 := (wd_X5 cI cL cS cH a x1 x2 v_high v_wide v_folds v_wrong v_more v_rowOf v_colOf v_below v_face w_1 v_last v_bend v_tall)) (rest := []) C0 lk_X5_47 (ctJ7_fill_53178 (a := (fun k => a (k + 5))) (d := d - 1) (by omega) hc_2) (by omega) rfl hl.1 rfl (mm_cat rfl) dX5_renew_15 hP hD hA hS [false, false, false, false, false, true, false, false, false] rfl rfl rfl rfl (fun H locs hP hD hS => ?_)
  refine W.eq (g2 := F0 m 18 ls []) rfl ?_
  refine lv_aload_n hx hb dX5_renew_18 rfl (lv_at hl 0 rfl) ?_
  refine mm_get C0 hP iw_X5 0 rfl rfl 12 (by decide) fl_X5_27 rfl dX5_renew_19 ?_
  refine lv_iconst (v := 0) hx hb dX5_renew_22 (by decide) ?_
  obtain ⟨w_3, hc_4, hf⟩ := mm_bd1s hf
  refine mm_callT (w2 := (wd_X5 cI cL cS cH a x1 x2 v_high v_wide v_folds v_wrong v_more v_rowOf v_colOf v_below v_face w_1 w_3 v_bend v_tall)) (rest := []) C0 lk_X5_47 (ctJ7_fill_53178 (a := (fun k => a (k + 6))) (d := d - 1) (by omega) hc_4) (by omega) rfl hl.1 rfl (mm_cat rfl) dX5_renew_23 hP hD hA hS [false, false, false, false, false, false, true, false, false] rfl rfl rfl rfl (fun H locs hP hD hS => ?_)
  refine W.eq (g2 := F0 m 26 ls []) rfl ?_
  refine lv_aload_n hx hb dX5_renew_26 rfl (lv_at hl 0 rfl) ?_
  obtain ⟨w_5, w_6, w_7, hc_8, hf⟩ := mm_bd3s hf
  refine mm_callVF (q0 := 0) (ci := 5) (rest := []) C0 lk_X5_53 (ctX5_forgetLed (a := a) (d := d - 1) (by omega) hc_8) (by omega) rfl hl.1 rfl (mm_cat rfl) dX5_renew_27 hP hD hA hS rfl rfl (fun H locs hP hD hS => ?_)
  refine W.eq (g2 := F0 m 30 ls []) rfl ?_
  refine lv_aload_n hx hb dX5_renew_30 rfl (lv_at hl 0 rfl) ?_
  refine mm_ct6 hf (fun w_9 w_10 w_11 w_12 w_13 w_14 hc_15 hf => ?_)
  refine mm_callVF (q0 := 0) (ci := 5) (rest := []) C0 lk_X5_56 (ctX5_layOut (a := a) (d := d - 1) (by omega) hc_15) (by omega) rfl hl.1 rfl (mm_cat rfl) dX5_renew_31 hP hD hA hS rfl rfl (fun H locs hP hD hS => ?_)
  refine W.eq (g2 := F0 m 34 ls []) rfl ?_
  apply mm_sub13 hf
  exact mm_vret C0 hP hD hS dX5_renew_34

