/-! parts: X7_crossesLaid, X7_enter, X7_grow, X7_howMany, X7_orderAt, X7_isBent, X7_howManyBent, X7_firstBent, X7_howManyTopped -/
theorem dX7_crossesLaid_0 : decode cX7_crossesLaid 0 = .ok (.aload_n 0, 1) := by decide +kernel
theorem dX7_crossesLaid_1 : decode cX7_crossesLaid 1 = .ok (.iload_n 1, 1) := by decide +kernel
theorem dX7_crossesLaid_2 : decode cX7_crossesLaid 2 = .ok (.iload_n 2, 1) := by decide +kernel
theorem dX7_crossesLaid_3 : decode cX7_crossesLaid 3 = .ok (.invokevirtual 71, 3) := by decide +kernel
theorem dX7_crossesLaid_6 : decode cX7_crossesLaid 6 = .ok (.ifCond .ne 5, 3) := by decide +kernel
theorem dX7_crossesLaid_9 : decode cX7_crossesLaid 9 = .ok (.iconst 0, 1) := by decide +kernel
theorem dX7_crossesLaid_10 : decode cX7_crossesLaid 10 = .ok (.ireturn, 1) := by decide +kernel
theorem dX7_crossesLaid_11 : decode cX7_crossesLaid 11 = .ok (.iload_n 2, 1) := by decide +kernel
theorem dX7_crossesLaid_12 : decode cX7_crossesLaid 12 = .ok (.iconst 2, 1) := by decide +kernel
theorem dX7_crossesLaid_13 : decode cX7_crossesLaid 13 = .ok (.irem, 1) := by decide +kernel
theorem dX7_crossesLaid_14 : decode cX7_crossesLaid 14 = .ok (.istore_n 3, 1) := by decide +kernel
theorem dX7_crossesLaid_15 : decode cX7_crossesLaid 15 = .ok (.iload_n 3, 1) := by decide +kernel
theorem dX7_crossesLaid_16 : decode cX7_crossesLaid 16 = .ok (.iload_n 1, 1) := by decide +kernel
theorem dX7_crossesLaid_17 : decode cX7_crossesLaid 17 = .ok (.iconst 1, 1) := by decide +kernel
theorem dX7_crossesLaid_18 : decode cX7_crossesLaid 18 = .ok (.isub, 1) := by decide +kernel
theorem dX7_crossesLaid_19 : decode cX7_crossesLaid 19 = .ok (.if_icmp .ge 34, 3) := by decide +kernel
theorem dX7_crossesLaid_22 : decode cX7_crossesLaid 22 = .ok (.iload_n 3, 1) := by decide +kernel
theorem dX7_crossesLaid_23 : decode cX7_crossesLaid 23 = .ok (.iload_n 2, 1) := by decide +kernel
theorem dX7_crossesLaid_24 : decode cX7_crossesLaid 24 = .ok (.if_icmp .eq 23, 3) := by decide +kernel
theorem dX7_crossesLaid_27 : decode cX7_crossesLaid 27 = .ok (.aload_n 0, 1) := by decide +kernel
theorem dX7_crossesLaid_28 : decode cX7_crossesLaid 28 = .ok (.iload_n 1, 1) := by decide +kernel
theorem dX7_crossesLaid_29 : decode cX7_crossesLaid 29 = .ok (.iload_n 3, 1) := by decide +kernel
theorem dX7_crossesLaid_30 : decode cX7_crossesLaid 30 = .ok (.invokevirtual 71, 3) := by decide +kernel
theorem dX7_crossesLaid_33 : decode cX7_crossesLaid 33 = .ok (.ifCond .eq 14, 3) := by decide +kernel
theorem dX7_crossesLaid_36 : decode cX7_crossesLaid 36 = .ok (.aload_n 0, 1) := by decide +kernel
theorem dX7_crossesLaid_37 : decode cX7_crossesLaid 37 = .ok (.iload_n 2, 1) := by decide +kernel
theorem dX7_crossesLaid_38 : decode cX7_crossesLaid 38 = .ok (.iload_n 3, 1) := by decide +kernel
theorem dX7_crossesLaid_39 : decode cX7_crossesLaid 39 = .ok (.invokevirtual 27, 3) := by decide +kernel
theorem dX7_crossesLaid_42 : decode cX7_crossesLaid 42 = .ok (.ifCond .eq 5, 3) := by decide +kernel
theorem dX7_crossesLaid_45 : decode cX7_crossesLaid 45 = .ok (.iconst 1, 1) := by decide +kernel
theorem dX7_crossesLaid_46 : decode cX7_crossesLaid 46 = .ok (.ireturn, 1) := by decide +kernel
theorem dX7_crossesLaid_47 : decode cX7_crossesLaid 47 = .ok (.iinc 3 2, 3) := by decide +kernel
theorem dX7_crossesLaid_50 : decode cX7_crossesLaid 50 = .ok (.goto (-35), 3) := by decide +kernel
theorem dX7_crossesLaid_53 : decode cX7_crossesLaid 53 = .ok (.iconst 0, 1) := by decide +kernel
theorem dX7_crossesLaid_54 : decode cX7_crossesLaid 54 = .ok (.ireturn, 1) := by decide +kernel
def fX7_crossesLaid_47 (N : Nat) (k_15 : Int32 → Int32 → Int32 → List Int32 → Option (Bool)) (x1 : Int32) (x2 : Int32) (x3 : Int32) (v_at : List Int32) : Option (Bool) :=
    mm_nm (x3 + (2 : Int32)) (fun (y_14 : Int32) =>
    k_15 x1 x2 y_14 v_at)

set_option maxHeartbeats 4000000 in
set_option maxRecDepth 100000 in
theorem tX7_crossesLaid_47 {p : Program} {l : Launch} {e : Env} {s : State} {m : MethodId} {args : Array Value} {below : List Frame} {meth : Method} {c : Code} {D : va_G} {cI cL cS cH : ClassId} {A : Nat → Prop} {d : Nat} {a : Nat → Nat} (hd : 3 ≤ d) (C0 : mm_Cx p s m args meth c RX7 cX7_crossesLaid 4 (some .boolean) D (mm_T cI cL cS cH) A) (hA : ∀ q, s.heap.size ≤ q → A q) {v_list : List Int32} {v_found : List Int32} {r : Bool} (N : Nat) {k_15 : Int32 → Int32 → Int32 → List Int32 → Option (Bool)} (hk_15 : ∀ (x1 : Int32) (x2 : Int32) (x3 : Int32) (v_at : List Int32) (H : Heap) (locs : List Loc) (ls : Array Slot), k_15 x1 x2 x3 v_at = some r → va_P D mm_cl (wd_X7 cI cL cS cH a v_list v_found v_at) H → va_D A (wd_X7 cI cL cS cH a v_list v_found v_at) → va_S A s.heap H locs → lv_has ls 4 [(0, .ref (a 0)), (1, .int x1), (2, .int x2), (3, .int x3)] → W p l e (mm_rr d) s m args below meth c H locs 0 0 (mm_Z below D A (wd_X7 cI cL cS cH a v_list v_found v_at) (some (.int (mm_b r))) args s) (F0 m 15 ls [])) : ∀ (x1 : Int32) (x2 : Int32) (x3 : Int32) (v_at : List Int32) (H : Heap) (locs : List Loc) (ls : Array Slot), fX7_crossesLaid_47 N k_15 x1 x2 x3 v_at = some r → va_P D mm_cl (wd_X7 cI cL cS cH a v_list v_found v_at) H → va_D A (wd_X7 cI cL cS cH a v_list v_found v_at) → va_S A s.heap H locs → lv_has ls 4 [(0, .ref (a 0)), (1, .int x1), (2, .int x2), (3, .int x3)] → W p l e (mm_rr d) s m args below meth c H locs 0 0 (mm_Z below D A (wd_X7 cI cL cS cH a v_list v_found v_at) (some (.int (mm_b r))) args s) (F0 m 47 ls []) := by
  obtain ⟨hx, hb, hml, hown, hts, hr, hlocks, hK, hSt⟩ := id C0
  intro x1 x2 x3 v_at H locs ls hf hP hD hS hl
  unfold fX7_crossesLaid_47 at hf
  obtain ⟨y_14, ey_14⟩ : ∃ z : Int32, z = x3 + (2 : Int32) := ⟨_, rfl⟩
  have hf := mm_nms hf ey_14
  refine lv_iinc (v := y_14) (lv' := [(3, .int y_14), (0, .ref (a 0)), (1, .int x1), (2, .int x2)]) hx hb dX7_crossesLaid_47 hl (k := 3) rfl (by rw [ey_14]; rfl) (by decide) rfl (fun ls hl => ?_)
  refine lv_goto (tgt := 15) hx hb dX7_crossesLaid_50 (by decide) ?_
  exact hk_15 _ _ _ _ H locs ls hf hP hD hS (lv_sub hl [1, 2, 3, 0] rfl)

def fX7_crossesLaid_15 (N : Nat)  : Nat → Int32 → Int32 → Int32 → List Int32 → Option (Bool)
  | 0 => fun _ _ _ _ => none
  | n + 1 => fun x1 x2 x3 v_at =>
    if (x1 - (1 : Int32)) ≤ x3 then
    (some (false))
    else (if x3 = x2 then
    (fX7_crossesLaid_47 N (fX7_crossesLaid_15 N n) x1 x2 x3 v_at)
    else (mm_bd1 (fX7_isLaid N x1 x3 v_at) (fun (r_8 : Bool) =>
    if r_8 = false then
    (fX7_crossesLaid_47 N (fX7_crossesLaid_15 N n) x1 x2 x3 v_at)
    else (mm_bd1 (fX7_crossing N x2 x3 v_at) (fun (r_11 : Bool) =>
    if r_11 = false then
    (fX7_crossesLaid_47 N (fX7_crossesLaid_15 N n) x1 x2 x3 v_at)
    else (some (true)))))))

set_option maxHeartbeats 4000000 in
set_option maxRecDepth 100000 in
theorem tX7_crossesLaid_15 {p : Program} {l : Launch} {e : Env} {s : State} {m : MethodId} {args : Array Value} {below : List Frame} {meth : Method} {c : Code} {D : va_G} {cI cL cS cH : ClassId} {A : Nat → Prop} {d : Nat} {a : Nat → Nat} (hd : 3 ≤ d) (C0 : mm_Cx p s m args meth c RX7 cX7_crossesLaid 4 (some .boolean) D (mm_T cI cL cS cH) A) (hA : ∀ q, s.heap.size ≤ q → A q) {v_list : List Int32} {v_found : List Int32} {r : Bool} (N : Nat)  : ∀ (n : Nat), ∀ (x1 : Int32) (x2 : Int32) (x3 : Int32) (v_at : List Int32) (H : Heap) (locs : List Loc) (ls : Array Slot), fX7_crossesLaid_15 N n x1 x2 x3 v_at = some r → va_P D mm_cl (wd_X7 cI cL cS cH a v_list v_found v_at) H → va_D A (wd_X7 cI cL cS cH a v_list v_found v_at) → va_S A s.heap H locs → lv_has ls 4 [(0, .ref (a 0)), (1, .int x1), (2, .int x2), (3, .int x3)] → W p l e (mm_rr d) s m args below meth c H locs 0 0 (mm_Z below D A (wd_X7 cI cL cS cH a v_list v_found v_at) (some (.int (mm_b r))) args s) (F0 m 15 ls []) := by
  obtain ⟨hx, hb, hml, hown, hts, hr, hlocks, hK, hSt⟩ := id C0
  intro n
  induction n with
  | zero =>
    intro x1 x2 x3 v_at H locs ls hf
    cases (show none = some _ from hf)
  | succ n ih =>
    intro x1 x2 x3 v_at H locs ls hf hP hD hS hl
    unfold fX7_crossesLaid_15 at hf
    refine lv_iload_n hx hb dX7_crossesLaid_15 rfl (lv_at hl 3 rfl) ?_
    refine lv_iload_n hx hb dX7_crossesLaid_16 rfl (lv_at hl 1 rfl) ?_
    refine lv_iconst (v := 1) hx hb dX7_crossesLaid_17 (by decide) ?_
    refine lv_isub hx hb dX7_crossesLaid_18 ?_
    refine lv_icmp_ge (tgt := 53) hx hb dX7_crossesLaid_19 (by decide) (fun c_6 => ?_) (fun c_6 => ?_)
    · have hf := mm_ip hf c_6
      refine lv_iconst (v := 0) hx hb dX7_crossesLaid_53 (by decide) ?_
      obtain rfl := mm_inj1 hf
      exact mm_zret (v := false) C0 hP hD hS dX7_crossesLaid_54 (by decide)
    · have hf := mm_in hf c_6
      refine lv_iload_n hx hb dX7_crossesLaid_22 rfl (lv_at hl 3 rfl) ?_
      refine lv_iload_n hx hb dX7_crossesLaid_23 rfl (lv_at hl 2 rfl) ?_
      refine lv_icmp_eq (tgt := 47) hx hb dX7_crossesLaid_24 (by decide) (fun c_7 => ?_) (fun c_7 => ?_)
      · have hf := mm_ip hf c_7
        exact tX7_crossesLaid_47 hd C0 hA N ih _ _ _ _ H locs ls hf hP hD hS (lv_sub hl [0, 1, 2, 3] rfl)
      · have hf := mm_in hf c_7
        refine lv_aload_n hx hb dX7_crossesLaid_27 rfl (lv_at hl 0 rfl) ?_
        refine lv_iload_n hx hb dX7_crossesLaid_28 rfl (lv_at hl 1 rfl) ?_
        refine lv_iload_n hx hb dX7_crossesLaid_29 rfl (lv_at hl 3 rfl) ?_
        obtain ⟨r_8, hc_9, hf⟩ := mm_bd1s hf
        refine mm_callVF (q0 := 0) (ci := 7) (rest := []) C0 lk_X7_71 (ctX7_isLaid (a := a) (d := d - 1) (by omega) hc_9) (by omega) rfl hl.1 rfl (mm_cat rfl) dX7_crossesLaid_30 hP hD hA hS rfl rfl (fun H locs hP hD hS => ?_)
        refine W.eq (g2 := F0 m 33 ls [.int (mm_b r_8)]) rfl ?_
        refine lv_if_eq (tgt := 47) hx hb dX7_crossesLaid_33 (by decide) (fun c_10 => ?_) (fun c_10 => ?_)
        · have hf := mm_ip hf (mm_b0 c_10)
          exact tX7_crossesLaid_47 hd C0 hA N ih _ _ _ _ H locs ls hf hP hD hS (lv_sub hl [0, 1, 2, 3] rfl)
        · have hf := mm_in hf (mm_b1 c_10)
          refine lv_aload_n hx hb dX7_crossesLaid_36 rfl (lv_at hl 0 rfl) ?_
          refine lv_iload_n hx hb dX7_crossesLaid_37 rfl (lv_at hl 2 rfl) ?_
          refine lv_iload_n hx hb dX7_crossesLaid_38 rfl (lv_at hl 3 rfl) ?_
          obtain ⟨r_11, hc_12, hf⟩ := mm_bd1s hf
          refine mm_callVF (q0 := 0) (ci := 7) (rest := []) C0 lk_X7_27 (ctX7_crossing (a := a) (d := d - 1) (by omega) hc_12) (by omega) rfl hl.1 rfl (mm_cat rfl) dX7_crossesLaid_39 hP hD hA hS rfl rfl (fun H locs hP hD hS => ?_)
          refine W.eq (g2 := F0 m 42 ls [.int (mm_b r_11)]) rfl ?_
          refine lv_if_eq (tgt := 47) hx hb dX7_crossesLaid_42 (by decide) (fun c_13 => ?_) (fun c_13 => ?_)
          · have hf := mm_ip hf (mm_b0 c_13)
            exact tX7_crossesLaid_47 hd C0 hA N ih _ _ _ _ H locs ls hf hP hD hS (lv_sub hl [0, 1, 2, 3] rfl)
          · have hf := mm_in hf (mm_b1 c_13)
            refine lv_iconst (v := 1) hx hb dX7_crossesLaid_45 (by decide) ?_
            obtain rfl := mm_inj1 hf
            exact mm_zret (v := true) C0 hP hD hS dX7_crossesLaid_46 (by decide)

def fX7_crossesLaid (N : Nat) (x1 : Int32) (x2 : Int32) (v_at : List Int32) : Option (Bool) :=
    mm_bd1 (fX7_isLaid N x1 x2 v_at) (fun (r_1 : Bool) =>
    if r_1 = false then
    (some (false))
    else (mm_ck (mm_nz (2 : Int32)) (mm_nm ((mm_rem x2 (2 : Int32))) (fun (y_5 : Int32) =>
    fX7_crossesLaid_15 N N x1 x2 y_5 v_at))))

set_option maxHeartbeats 4000000 in
set_option maxRecDepth 100000 in
theorem ctX7_crossesLaid {l : Launch} {D : va_G} {cI cL cS cH : ClassId} {a : Nat → Nat} {x1 : Int32} {x2 : Int32} {v_list : List Int32} {v_found : List Int32} {v_at : List Int32} {r : Bool} {N d : Nat} (hd : 3 ≤ d) (hf : fX7_crossesLaid N x1 x2 v_at = some r) : mm_Ct l yX7_crossesLaid cX7_crossesLaid 4 (some .boolean) d D (mm_T cI cL cS cH) [.ref (a 0), .int x1, .int x2] (wd_X7 cI cL cS cH a v_list v_found v_at) (wd_X7 cI cL cS cH a v_list v_found v_at) (some (.int (mm_b r))) := by
  refine mm_of (by decide) (Nat.le_of_ble_eq_true rfl) ?_
  intro p e s m args below meth c A H locs ls C0 hP hD hA hS hl
  have C0 : mm_Cx p s m args meth c RX7 cX7_crossesLaid 4 (some .boolean) D (mm_T cI cL cS cH) A := C0
  obtain ⟨hx, hb, hml, hown, hts, hr, hlocks, hK, hSt⟩ := id C0
  have hl : lv_has ls 4 [(0, .ref (a 0)), (1, .int x1), (2, .int x2)] := hl
  unfold fX7_crossesLaid at hf
  refine lv_aload_n hx hb dX7_crossesLaid_0 rfl (lv_at hl 0 rfl) ?_
  refine lv_iload_n hx hb dX7_crossesLaid_1 rfl (lv_at hl 1 rfl) ?_
  refine lv_iload_n hx hb dX7_crossesLaid_2 rfl (lv_at hl 2 rfl) ?_
  obtain ⟨r_1, hc_2, hf⟩ := mm_bd1s hf
  refine mm_callVF (q0 := 0) (ci := 7) (rest := []) C0 lk_X7_71 (ctX7_isLaid (a := a) (d := d - 1) (by omega) hc_2) (by omega) rfl hl.1 rfl (mm_cat rfl) dX7_crossesLaid_3 hP hD hA hS rfl rfl (fun H locs hP hD hS => ?_)
  refine W.eq (g2 := F0 m 6 ls [.int (mm_b r_1)]) rfl ?_
  refine lv_if_ne (tgt := 11) hx hb dX7_crossesLaid_6 (by decide) (fun c_3 => ?_) (fun c_3 => ?_)
  · have hf := mm_in hf (mm_b1 c_3)
    refine lv_iload_n hx hb dX7_crossesLaid_11 rfl (lv_at hl 2 rfl) ?_
    refine lv_iconst (v := 2) hx hb dX7_crossesLaid_12 (by decide) ?_
    obtain ⟨h_4, hf⟩ := mm_cks hf
    refine lv_irem hx hb dX7_crossesLaid_13 (mm_nzs h_4) ?_
    refine lv_topi (fun y_5 ey_5 => ?_)
    have hf := mm_nms hf ey_5
    refine lv_istore_n (lv' := [(3, .int y_5), (0, .ref (a 0)), (1, .int x1), (2, .int x2)]) hx hb dX7_crossesLaid_14 rfl hl (by decide) rfl (fun ls hl => ?_)
    exact tX7_crossesLaid_15 hd C0 hA N  N _ _ _ _ H locs ls hf hP hD hS (lv_sub hl [1, 2, 3, 0] rfl)
  · have hf := mm_ip hf (mm_b0 c_3)
    refine lv_iconst (v := 0) hx hb dX7_crossesLaid_9 (by decide) ?_
    obtain rfl := mm_inj1 hf
    exact mm_zret (v := false) C0 hP hD hS dX7_crossesLaid_10 (by decide)

theorem dX7_enter_0 : decode cX7_enter 0 = .ok (.getstatic 51, 3) := by decide +kernel
theorem dX7_enter_3 : decode cX7_enter 3 = .ok (.iload_n 1, 1) := by decide +kernel
theorem dX7_enter_4 : decode cX7_enter 4 = .ok (.iaload, 1) := by decide +kernel
theorem dX7_enter_5 : decode cX7_enter 5 = .ok (.aload_n 0, 1) := by decide +kernel
theorem dX7_enter_6 : decode cX7_enter 6 = .ok (.getfield 15, 3) := by decide +kernel
theorem dX7_enter_9 : decode cX7_enter 9 = .ok (.iload_n 1, 1) := by decide +kernel
theorem dX7_enter_10 : decode cX7_enter 10 = .ok (.iaload, 1) := by decide +kernel
theorem dX7_enter_11 : decode cX7_enter 11 = .ok (.iadd, 1) := by decide +kernel
theorem dX7_enter_12 : decode cX7_enter 12 = .ok (.istore_n 3, 1) := by decide +kernel
theorem dX7_enter_13 : decode cX7_enter 13 = .ok (.iload_n 3, 1) := by decide +kernel
theorem dX7_enter_14 : decode cX7_enter 14 = .ok (.getstatic 51, 3) := by decide +kernel
theorem dX7_enter_17 : decode cX7_enter 17 = .ok (.iload_n 1, 1) := by decide +kernel
theorem dX7_enter_18 : decode cX7_enter 18 = .ok (.iconst 1, 1) := by decide +kernel
theorem dX7_enter_19 : decode cX7_enter 19 = .ok (.iadd, 1) := by decide +kernel
theorem dX7_enter_20 : decode cX7_enter 20 = .ok (.iaload, 1) := by decide +kernel
theorem dX7_enter_21 : decode cX7_enter 21 = .ok (.if_icmp .ge 20, 3) := by decide +kernel
theorem dX7_enter_24 : decode cX7_enter 24 = .ok (.aload_n 0, 1) := by decide +kernel
theorem dX7_enter_25 : decode cX7_enter 25 = .ok (.getfield 11, 3) := by decide +kernel
theorem dX7_enter_28 : decode cX7_enter 28 = .ok (.iload_n 3, 1) := by decide +kernel
theorem dX7_enter_29 : decode cX7_enter 29 = .ok (.iload_n 2, 1) := by decide +kernel
theorem dX7_enter_30 : decode cX7_enter 30 = .ok (.iastore, 1) := by decide +kernel
theorem dX7_enter_31 : decode cX7_enter 31 = .ok (.aload_n 0, 1) := by decide +kernel
theorem dX7_enter_32 : decode cX7_enter 32 = .ok (.getfield 15, 3) := by decide +kernel
theorem dX7_enter_35 : decode cX7_enter 35 = .ok (.iload_n 1, 1) := by decide +kernel
theorem dX7_enter_36 : decode cX7_enter 36 = .ok (.dup2, 1) := by decide +kernel
theorem dX7_enter_37 : decode cX7_enter 37 = .ok (.iaload, 1) := by decide +kernel
theorem dX7_enter_38 : decode cX7_enter 38 = .ok (.iconst 1, 1) := by decide +kernel
theorem dX7_enter_39 : decode cX7_enter 39 = .ok (.iadd, 1) := by decide +kernel
theorem dX7_enter_40 : decode cX7_enter 40 = .ok (.iastore, 1) := by decide +kernel
theorem dX7_enter_41 : decode cX7_enter 41 = .ok (.return_, 1) := by decide +kernel
def fX7_enter (N : Nat) (x1 : Int32) (x2 : Int32) (v_list : List Int32) (v_found : List Int32) : Option (List Int32 × List Int32) :=
    mm_ck (mm_inb x1 mm_START.length) (mm_ck (mm_inb x1 v_found.length) (mm_nm (((mm_ig mm_START x1) + (mm_ig v_found x1))) (fun (y_3 : Int32) =>
    mm_ck (mm_inb (x1 + (1 : Int32)) mm_START.length) (if (mm_ig mm_START (x1 + (1 : Int32))) ≤ y_3 then
    (some (v_list, v_found))
    else (mm_ck (mm_inb y_3 v_list.length) (mm_nm (mm_is v_list y_3 x2) (fun (l_7 : List Int32) =>
    mm_ck (mm_inb x1 v_found.length) (mm_nm (((mm_ig v_found x1) + (1 : Int32))) (fun (y_9 : Int32) =>
    mm_ck (mm_inb x1 v_found.length) (mm_nm (mm_is v_found x1 y_9) (fun (l_11 : List Int32) =>
    some (l_7, l_11))))))))))))

set_option maxHeartbeats 4000000 in
set_option maxRecDepth 100000 in
theorem ctX7_enter {l : Launch} {D : va_G} {cI cL cS cH : ClassId} {a : Nat → Nat} {x1 : Int32} {x2 : Int32} {v_list : List Int32} {v_found : List Int32} {v_at : List Int32} {w_list : List Int32} {w_found : List Int32} {N d : Nat} (hd : 1 ≤ d) (hf : fX7_enter N x1 x2 v_list v_found = some (w_list, w_found)) : mm_Ct l yX7_enter cX7_enter 4 none d D (mm_T cI cL cS cH) [.ref (a 0), .int x1, .int x2] (wd_X7 cI cL cS cH a v_list v_found v_at) (wd_X7 cI cL cS cH a w_list w_found v_at) none := by
  refine mm_of (by decide) (Nat.le_of_ble_eq_true rfl) ?_
  intro p e s m args below meth c A H locs ls C0 hP hD hA hS hl
  have C0 : mm_Cx p s m args meth c RX7 cX7_enter 4 none D (mm_T cI cL cS cH) A := C0
  obtain ⟨hx, hb, hml, hown, hts, hr, hlocks, hK, hSt⟩ := id C0
  obtain ⟨⟨t_START, hZ_START, hT_START⟩, ⟨t_ABOVE, hZ_ABOVE, hT_ABOVE⟩, ⟨t_OWN, hZ_OWN, hT_OWN⟩, hNest⟩ := hSt
  have hl : lv_has ls 4 [(0, .ref (a 0)), (1, .int x1), (2, .int x2)] := hl
  unfold fX7_enter at hf
  refine va_gets hx hb hZ_START hS hown (hts _ fl_X7_51) (fun _ h9 => h9) dX7_enter_0 ?_
  refine lv_iload_n hx hb dX7_enter_3 rfl (lv_at hl 1 rfl) ?_
  obtain ⟨h_1, hf⟩ := mm_cks hf
  refine va_ti (v := .int (mm_ig mm_START x1)) hx hb hT_START hS (mm_inbs h_1).1 rfl dX7_enter_4 ?_
  refine lv_aload_n hx hb dX7_enter_5 rfl (lv_at hl 0 rfl) ?_
  refine mm_get C0 hP iw_X7 0 rfl rfl 1 (by decide) fl_X7_15 rfl dX7_enter_6 ?_
  refine lv_iload_n hx hb dX7_enter_9 rfl (lv_at hl 1 rfl) ?_
  obtain ⟨h_2, hf⟩ := mm_cks hf
  refine mm_iald C0 hP 2 rfl h_2 dX7_enter_10 ?_
  refine lv_iadd hx hb dX7_enter_11 ?_
  refine lv_topi (fun y_3 ey_3 => ?_)
  have hf := mm_nms hf ey_3
  refine lv_istore_n (lv' := [(3, .int y_3), (0, .ref (a 0)), (1, .int x1), (2, .int x2)]) hx hb dX7_enter_12 rfl hl (by decide) rfl (fun ls hl => ?_)
  refine lv_iload_n hx hb dX7_enter_13 rfl (lv_at hl 0 rfl) ?_
  refine va_gets hx hb hZ_START hS hown (hts _ fl_X7_51) (fun _ h9 => h9) dX7_enter_14 ?_
  refine lv_iload_n hx hb dX7_enter_17 rfl (lv_at hl 2 rfl) ?_
  refine lv_iconst (v := 1) hx hb dX7_enter_18 (by decide) ?_
  refine lv_iadd hx hb dX7_enter_19 ?_
  obtain ⟨h_4, hf⟩ := mm_cks hf
  refine va_ti (v := .int (mm_ig mm_START (x1 + (1 : Int32)))) hx hb hT_START hS (mm_inbs h_4).1 rfl dX7_enter_20 ?_
  refine lv_icmp_ge (tgt := 41) hx hb dX7_enter_21 (by decide) (fun c_5 => ?_) (fun c_5 => ?_)
  · have hf := mm_ip hf c_5
    apply mm_sub2 hf
    exact mm_vret C0 hP hD hS dX7_enter_41
  · have hf := mm_in hf c_5
    refine lv_aload_n hx hb dX7_enter_24 rfl (lv_at hl 1 rfl) ?_
    refine mm_get C0 hP iw_X7 0 rfl rfl 0 (by decide) fl_X7_11 rfl dX7_enter_25 ?_
    refine lv_iload_n hx hb dX7_enter_28 rfl (lv_at hl 0 rfl) ?_
    refine lv_iload_n hx hb dX7_enter_29 rfl (lv_at hl 3 rfl) ?_
    obtain ⟨h_6, hf⟩ := mm_cks hf
    refine mm_iast C0 hP hD hS 1 rfl h_6 dX7_enter_30 (w2 := (wd_X7 cI cL cS cH a (mm_is v_list y_3 x2) v_found v_at)) rfl (fun H locs hP hD hS => ?_)
    generalize el_7 : (mm_is v_list y_3 x2) = l_7 at hP hD
    have hf := mm_nms hf el_7.symm
    refine lv_aload_n hx hb dX7_enter_31 rfl (lv_at hl 1 rfl) ?_
    refine mm_get C0 hP iw_X7 0 rfl rfl 1 (by decide) fl_X7_15 rfl dX7_enter_32 ?_
    refine lv_iload_n hx hb dX7_enter_35 rfl (lv_at hl 2 rfl) ?_
    refine lv_dup2_11 hx hb dX7_enter_36 rfl rfl ?_
    obtain ⟨h_8, hf⟩ := mm_cks hf
    refine mm_iald C0 hP 2 rfl h_8 dX7_enter_37 ?_
    refine lv_iconst (v := 1) hx hb dX7_enter_38 (by decide) ?_
    refine lv_iadd hx hb dX7_enter_39 ?_
    refine lv_topi (fun y_9 ey_9 => ?_)
    have hf := mm_nms hf ey_9
    obtain ⟨h_10, hf⟩ := mm_cks hf
    refine mm_iast C0 hP hD hS 2 rfl h_10 dX7_enter_40 (w2 := (wd_X7 cI cL cS cH a l_7 (mm_is v_found x1 y_9) v_at)) rfl (fun H locs hP hD hS => ?_)
    generalize el_11 : (mm_is v_found x1 y_9) = l_11 at hP hD
    have hf := mm_nms hf el_11.symm
    apply mm_sub2 hf
    exact mm_vret C0 hP hD hS dX7_enter_41

theorem dX7_grow_0 : decode cX7_grow 0 = .ok (.iload_n 2, 1) := by decide +kernel
theorem dX7_grow_1 : decode cX7_grow 1 = .ok (.iload_n 1, 1) := by decide +kernel
theorem dX7_grow_2 : decode cX7_grow 2 = .ok (.if_icmp .ne 10, 3) := by decide +kernel
theorem dX7_grow_5 : decode cX7_grow 5 = .ok (.aload_n 0, 1) := by decide +kernel
theorem dX7_grow_6 : decode cX7_grow 6 = .ok (.iload_n 1, 1) := by decide +kernel
theorem dX7_grow_7 : decode cX7_grow 7 = .ok (.iload_n 3, 1) := by decide +kernel
theorem dX7_grow_8 : decode cX7_grow 8 = .ok (.invokevirtual 64, 3) := by decide +kernel
theorem dX7_grow_11 : decode cX7_grow 11 = .ok (.return_, 1) := by decide +kernel
theorem dX7_grow_12 : decode cX7_grow 12 = .ok (.iconst 0, 1) := by decide +kernel
theorem dX7_grow_13 : decode cX7_grow 13 = .ok (.istore 4, 2) := by decide +kernel
theorem dX7_grow_15 : decode cX7_grow 15 = .ok (.iload 4, 2) := by decide +kernel
theorem dX7_grow_17 : decode cX7_grow 17 = .ok (.iload_n 1, 1) := by decide +kernel
theorem dX7_grow_18 : decode cX7_grow 18 = .ok (.if_icmp .ge 77, 3) := by decide +kernel
theorem dX7_grow_21 : decode cX7_grow 21 = .ok (.aload_n 0, 1) := by decide +kernel
theorem dX7_grow_22 : decode cX7_grow 22 = .ok (.getfield 18, 3) := by decide +kernel
theorem dX7_grow_25 : decode cX7_grow 25 = .ok (.iload 4, 2) := by decide +kernel
theorem dX7_grow_27 : decode cX7_grow 27 = .ok (.iaload, 1) := by decide +kernel
theorem dX7_grow_28 : decode cX7_grow 28 = .ok (.ifCond .lt 6, 3) := by decide +kernel
theorem dX7_grow_31 : decode cX7_grow 31 = .ok (.goto 58, 3) := by decide +kernel
theorem dX7_grow_34 : decode cX7_grow 34 = .ok (.aload_n 0, 1) := by decide +kernel
theorem dX7_grow_35 : decode cX7_grow 35 = .ok (.getfield 18, 3) := by decide +kernel
theorem dX7_grow_38 : decode cX7_grow 38 = .ok (.iload 4, 2) := by decide +kernel
theorem dX7_grow_40 : decode cX7_grow 40 = .ok (.iload_n 2, 1) := by decide +kernel
theorem dX7_grow_41 : decode cX7_grow 41 = .ok (.iastore, 1) := by decide +kernel
theorem dX7_grow_42 : decode cX7_grow 42 = .ok (.aload_n 0, 1) := by decide +kernel
theorem dX7_grow_43 : decode cX7_grow 43 = .ok (.iload_n 1, 1) := by decide +kernel
theorem dX7_grow_44 : decode cX7_grow 44 = .ok (.iload 4, 2) := by decide +kernel
theorem dX7_grow_46 : decode cX7_grow 46 = .ok (.iconst 1, 1) := by decide +kernel
theorem dX7_grow_47 : decode cX7_grow 47 = .ok (.isub, 1) := by decide +kernel
theorem dX7_grow_48 : decode cX7_grow 48 = .ok (.invokevirtual 68, 3) := by decide +kernel
theorem dX7_grow_51 : decode cX7_grow 51 = .ok (.ifCond .ne 30, 3) := by decide +kernel
theorem dX7_grow_54 : decode cX7_grow 54 = .ok (.aload_n 0, 1) := by decide +kernel
theorem dX7_grow_55 : decode cX7_grow 55 = .ok (.iload_n 1, 1) := by decide +kernel
theorem dX7_grow_56 : decode cX7_grow 56 = .ok (.iload 4, 2) := by decide +kernel
theorem dX7_grow_58 : decode cX7_grow 58 = .ok (.invokevirtual 68, 3) := by decide +kernel
theorem dX7_grow_61 : decode cX7_grow 61 = .ok (.ifCond .ne 20, 3) := by decide +kernel
theorem dX7_grow_64 : decode cX7_grow 64 = .ok (.aload_n 0, 1) := by decide +kernel
theorem dX7_grow_65 : decode cX7_grow 65 = .ok (.iload_n 1, 1) := by decide +kernel
theorem dX7_grow_66 : decode cX7_grow 66 = .ok (.iload_n 2, 1) := by decide +kernel
theorem dX7_grow_67 : decode cX7_grow 67 = .ok (.iconst 1, 1) := by decide +kernel
theorem dX7_grow_68 : decode cX7_grow 68 = .ok (.iadd, 1) := by decide +kernel
theorem dX7_grow_69 : decode cX7_grow 69 = .ok (.bipush 10, 2) := by decide +kernel
theorem dX7_grow_71 : decode cX7_grow 71 = .ok (.iload_n 3, 1) := by decide +kernel
theorem dX7_grow_72 : decode cX7_grow 72 = .ok (.imul, 1) := by decide +kernel
theorem dX7_grow_73 : decode cX7_grow 73 = .ok (.iload 4, 2) := by decide +kernel
theorem dX7_grow_75 : decode cX7_grow 75 = .ok (.iadd, 1) := by decide +kernel
theorem dX7_grow_76 : decode cX7_grow 76 = .ok (.iconst 1, 1) := by decide +kernel
theorem dX7_grow_77 : decode cX7_grow 77 = .ok (.iadd, 1) := by decide +kernel
theorem dX7_grow_78 : decode cX7_grow 78 = .ok (.invokevirtual 43, 3) := by decide +kernel
theorem dX7_grow_81 : decode cX7_grow 81 = .ok (.aload_n 0, 1) := by decide +kernel
theorem dX7_grow_82 : decode cX7_grow 82 = .ok (.getfield 18, 3) := by decide +kernel
theorem dX7_grow_85 : decode cX7_grow 85 = .ok (.iload 4, 2) := by decide +kernel
theorem dX7_grow_87 : decode cX7_grow 87 = .ok (.iconst (-1), 1) := by decide +kernel
theorem dX7_grow_88 : decode cX7_grow 88 = .ok (.iastore, 1) := by decide +kernel
theorem dX7_grow_89 : decode cX7_grow 89 = .ok (.iinc 4 1, 3) := by decide +kernel
theorem dX7_grow_92 : decode cX7_grow 92 = .ok (.goto (-77), 3) := by decide +kernel
theorem dX7_grow_95 : decode cX7_grow 95 = .ok (.return_, 1) := by decide +kernel
def fX7_grow_89 (N : Nat) (go : Int32 → Int32 → Int32 → List Int32 → List Int32 → List Int32 → Option (List Int32 × List Int32 × List Int32)) (k_15 : Int32 → Int32 → Int32 → Int32 → List Int32 → List Int32 → List Int32 → Option (List Int32 × List Int32 × List Int32)) (x1 : Int32) (x2 : Int32) (x3 : Int32) (x4 : Int32) (v_list : List Int32) (v_found : List Int32) (v_at : List Int32) : Option (List Int32 × List Int32 × List Int32) :=
    mm_nm (x4 + (1 : Int32)) (fun (y_20 : Int32) =>
    k_15 x1 x2 x3 y_20 v_list v_found v_at)

set_option maxHeartbeats 4000000 in
set_option maxRecDepth 100000 in
theorem tX7_grow_89 {p : Program} {l : Launch} {e : Env} {s : State} {m : MethodId} {args : Array Value} {below : List Frame} {meth : Method} {c : Code} {D : va_G} {cI cL cS cH : ClassId} {A : Nat → Prop} {d : Nat} {a : Nat → Nat} {go : Int32 → Int32 → Int32 → List Int32 → List Int32 → List Int32 → Option (List Int32 × List Int32 × List Int32)} {dgo : Nat} (hgo : ∀ (a : Nat → Nat) (x1 : Int32) (x2 : Int32) (x3 : Int32) (v_list : List Int32) (v_found : List Int32) (v_at : List Int32) (w_list : List Int32) (w_found : List Int32) (w_at : List Int32), go x1 x2 x3 v_list v_found v_at = some (w_list, w_found, w_at) → mm_Ct l yX7_grow cX7_grow 5 none dgo D (mm_T cI cL cS cH) [.ref (a 0), .int x1, .int x2, .int x3] (wd_X7 cI cL cS cH a v_list v_found v_at) (wd_X7 cI cL cS cH a w_list w_found w_at) none) (hE : 3 ≤ dgo) (hd : dgo + 1 ≤ d) (C0 : mm_Cx p s m args meth c RX7 cX7_grow 5 none D (mm_T cI cL cS cH) A) (hA : ∀ q, s.heap.size ≤ q → A q)  {w_list : List Int32} {w_found : List Int32} {w_at : List Int32} (N : Nat) {k_15 : Int32 → Int32 → Int32 → Int32 → List Int32 → List Int32 → List Int32 → Option (List Int32 × List Int32 × List Int32)} (hk_15 : ∀ (x1 : Int32) (x2 : Int32) (x3 : Int32) (x4 : Int32) (v_list : List Int32) (v_found : List Int32) (v_at : List Int32) (H : Heap) (locs : List Loc) (ls : Array Slot), k_15 x1 x2 x3 x4 v_list v_found v_at = some (w_list, w_found, w_at) → va_P D mm_cl (wd_X7 cI cL cS cH a v_list v_found v_at) H → va_D A (wd_X7 cI cL cS cH a v_list v_found v_at) → va_S A s.heap H locs → lv_has ls 5 [(0, .ref (a 0)), (1, .int x1), (2, .int x2), (3, .int x3), (4, .int x4)] → W p l e (mm_rr d) s m args below meth c H locs 0 0 (mm_Z below D A (wd_X7 cI cL cS cH a w_list w_found w_at) none args s) (F0 m 15 ls [])) : ∀ (x1 : Int32) (x2 : Int32) (x3 : Int32) (x4 : Int32) (v_list : List Int32) (v_found : List Int32) (v_at : List Int32) (H : Heap) (locs : List Loc) (ls : Array Slot), fX7_grow_89 N go k_15 x1 x2 x3 x4 v_list v_found v_at = some (w_list, w_found, w_at) → va_P D mm_cl (wd_X7 cI cL cS cH a v_list v_found v_at) H → va_D A (wd_X7 cI cL cS cH a v_list v_found v_at) → va_S A s.heap H locs → lv_has ls 5 [(0, .ref (a 0)), (1, .int x1), (2, .int x2), (3, .int x3), (4, .int x4)] → W p l e (mm_rr d) s m args below meth c H locs 0 0 (mm_Z below D A (wd_X7 cI cL cS cH a w_list w_found w_at) none args s) (F0 m 89 ls []) := by
  obtain ⟨hx, hb, hml, hown, hts, hr, hlocks, hK, hSt⟩ := id C0
  intro x1 x2 x3 x4 v_list v_found v_at H locs ls hf hP hD hS hl
  unfold fX7_grow_89 at hf
  obtain ⟨y_20, ey_20⟩ : ∃ z : Int32, z = x4 + (1 : Int32) := ⟨_, rfl⟩
  have hf := mm_nms hf ey_20
  refine lv_iinc (v := y_20) (lv' := [(4, .int y_20), (0, .ref (a 0)), (1, .int x1), (2, .int x2), (3, .int x3)]) hx hb dX7_grow_89 hl (k := 4) rfl (by rw [ey_20]; rfl) (by decide) rfl (fun ls hl => ?_)
  refine lv_goto (tgt := 15) hx hb dX7_grow_92 (by decide) ?_
  exact hk_15 _ _ _ _ _ _ _ H locs ls hf hP hD hS (lv_sub hl [1, 2, 3, 4, 0] rfl)

def fX7_grow_81 (N : Nat) (go : Int32 → Int32 → Int32 → List Int32 → List Int32 → List Int32 → Option (List Int32 × List Int32 × List Int32)) (k_15 : Int32 → Int32 → Int32 → Int32 → List Int32 → List Int32 → List Int32 → Option (List Int32 × List Int32 × List Int32)) (x1 : Int32) (x2 : Int32) (x3 : Int32) (x4 : Int32) (v_list : List Int32) (v_found : List Int32) (v_at : List Int32) : Option (List Int32 × List Int32 × List Int32) :=
    mm_ck (mm_inb x4 v_at.length) (mm_nm (mm_is v_at x4 (-1 : Int32)) (fun (l_22 : List Int32) =>
    fX7_grow_89 N go k_15 x1 x2 x3 x4 v_list v_found l_22))

set_option maxHeartbeats 4000000 in
set_option maxRecDepth 100000 in
theorem tX7_grow_81 {p : Program} {l : Launch} {e : Env} {s : State} {m : MethodId} {args : Array Value} {below : List Frame} {meth : Method} {c : Code} {D : va_G} {cI cL cS cH : ClassId} {A : Nat → Prop} {d : Nat} {a : Nat → Nat} {go : Int32 → Int32 → Int32 → List Int32 → List Int32 → List Int32 → Option (List Int32 × List Int32 × List Int32)} {dgo : Nat} (hgo : ∀ (a : Nat → Nat) (x1 : Int32) (x2 : Int32) (x3 : Int32) (v_list : List Int32) (v_found : List Int32) (v_at : List Int32) (w_list : List Int32) (w_found : List Int32) (w_at : List Int32), go x1 x2 x3 v_list v_found v_at = some (w_list, w_found, w_at) → mm_Ct l yX7_grow cX7_grow 5 none dgo D (mm_T cI cL cS cH) [.ref (a 0), .int x1, .int x2, .int x3] (wd_X7 cI cL cS cH a v_list v_found v_at) (wd_X7 cI cL cS cH a w_list w_found w_at) none) (hE : 3 ≤ dgo) (hd : dgo + 1 ≤ d) (C0 : mm_Cx p s m args meth c RX7 cX7_grow 5 none D (mm_T cI cL cS cH) A) (hA : ∀ q, s.heap.size ≤ q → A q)  {w_list : List Int32} {w_found : List Int32} {w_at : List Int32} (N : Nat) {k_15 : Int32 → Int32 → Int32 → Int32 → List Int32 → List Int32 → List Int32 → Option (List Int32 × List Int32 × List Int32)} (hk_15 : ∀ (x1 : Int32) (x2 : Int32) (x3 : Int32) (x4 : Int32) (v_list : List Int32) (v_found : List Int32) (v_at : List Int32) (H : Heap) (locs : List Loc) (ls : Array Slot), k_15 x1 x2 x3 x4 v_list v_found v_at = some (w_list, w_found, w_at) → va_P D mm_cl (wd_X7 cI cL cS cH a v_list v_found v_at) H → va_D A (wd_X7 cI cL cS cH a v_list v_found v_at) → va_S A s.heap H locs → lv_has ls 5 [(0, .ref (a 0)), (1, .int x1), (2, .int x2), (3, .int x3), (4, .int x4)] → W p l e (mm_rr d) s m args below meth c H locs 0 0 (mm_Z below D A (wd_X7 cI cL cS cH a w_list w_found w_at) none args s) (F0 m 15 ls [])) : ∀ (x1 : Int32) (x2 : Int32) (x3 : Int32) (x4 : Int32) (v_list : List Int32) (v_found : List Int32) (v_at : List Int32) (H : Heap) (locs : List Loc) (ls : Array Slot), fX7_grow_81 N go k_15 x1 x2 x3 x4 v_list v_found v_at = some (w_list, w_found, w_at) → va_P D mm_cl (wd_X7 cI cL cS cH a v_list v_found v_at) H → va_D A (wd_X7 cI cL cS cH a v_list v_found v_at) → va_S A s.heap H locs → lv_has ls 5 [(0, .ref (a 0)), (1, .int x1), (2, .int x2), (3, .int x3), (4, .int x4)] → W p l e (mm_rr d) s m args below meth c H locs 0 0 (mm_Z below D A (wd_X7 cI cL cS cH a w_list w_found w_at) none args s) (F0 m 81 ls []) := by
  obtain ⟨hx, hb, hml, hown, hts, hr, hlocks, hK, hSt⟩ := id C0
  intro x1 x2 x3 x4 v_list v_found v_at H locs ls hf hP hD hS hl
  unfold fX7_grow_81 at hf
  refine lv_aload_n hx hb dX7_grow_81 rfl (lv_at hl 0 rfl) ?_
  refine mm_get C0 hP iw_X7 0 rfl rfl 2 (by decide) fl_X7_18 rfl dX7_grow_82 ?_
  refine lv_iload hx hb dX7_grow_85 (lv_at hl 4 rfl) ?_
  refine lv_iconst (v := -1) hx hb dX7_grow_87 (by decide) ?_
  obtain ⟨h_21, hf⟩ := mm_cks hf
  refine mm_iast C0 hP hD hS 3 rfl h_21 dX7_grow_88 (w2 := (wd_X7 cI cL cS cH a v_list v_found (mm_is v_at x4 (-1 : Int32)))) rfl (fun H locs hP hD hS => ?_)
  generalize el_22 : (mm_is v_at x4 (-1 : Int32)) = l_22 at hP hD
  have hf := mm_nms hf el_22.symm
  exact tX7_grow_89 hgo hE hd C0 hA N hk_15 _ _ _ _ _ _ _ H locs ls hf hP hD hS (lv_sub hl [0, 1, 2, 3, 4] rfl)

def fX7_grow_15 (N : Nat) (go : Int32 → Int32 → Int32 → List Int32 → List Int32 → List Int32 → Option (List Int32 × List Int32 × List Int32))  : Nat → Int32 → Int32 → Int32 → Int32 → List Int32 → List Int32 → List Int32 → Option (List Int32 × List Int32 × List Int32)
  | 0 => fun _ _ _ _ _ _ _ => none
  | n + 1 => fun x1 x2 x3 x4 v_list v_found v_at =>
    if x1 ≤ x4 then
    (some (v_list, v_found, v_at))
    else (mm_ck (mm_inb x4 v_at.length) (if (mm_ig v_at x4) < 0 then
    (mm_ck (mm_inb x4 v_at.length) (mm_nm (mm_is v_at x4 x2) (fun (l_9 : List Int32) =>
    mm_bd1 (fX7_crossesLaid N x1 (x4 - (1 : Int32)) l_9) (fun (r_10 : Bool) =>
    if r_10 = false then
    (mm_bd1 (fX7_crossesLaid N x1 x4 l_9) (fun (r_13 : Bool) =>
    if r_13 = false then
    (mm_bd3 (go x1 (x2 + (1 : Int32)) ((((10 : Int32) * x3) + x4) + (1 : Int32)) v_list v_found l_9) (fun (w_16 : List Int32) (w_17 : List Int32) (w_18 : List Int32) =>
    fX7_grow_81 N go (fX7_grow_15 N go n) x1 x2 x3 x4 w_16 w_17 w_18))
    else (fX7_grow_81 N go (fX7_grow_15 N go n) x1 x2 x3 x4 v_list v_found l_9)))
    else (fX7_grow_81 N go (fX7_grow_15 N go n) x1 x2 x3 x4 v_list v_found l_9)))))
    else (fX7_grow_89 N go (fX7_grow_15 N go n) x1 x2 x3 x4 v_list v_found v_at)))

set_option maxHeartbeats 4000000 in
set_option maxRecDepth 100000 in
theorem tX7_grow_15 {p : Program} {l : Launch} {e : Env} {s : State} {m : MethodId} {args : Array Value} {below : List Frame} {meth : Method} {c : Code} {D : va_G} {cI cL cS cH : ClassId} {A : Nat → Prop} {d : Nat} {a : Nat → Nat} {go : Int32 → Int32 → Int32 → List Int32 → List Int32 → List Int32 → Option (List Int32 × List Int32 × List Int32)} {dgo : Nat} (hgo : ∀ (a : Nat → Nat) (x1 : Int32) (x2 : Int32) (x3 : Int32) (v_list : List Int32) (v_found : List Int32) (v_at : List Int32) (w_list : List Int32) (w_found : List Int32) (w_at : List Int32), go x1 x2 x3 v_list v_found v_at = some (w_list, w_found, w_at) → mm_Ct l yX7_grow cX7_grow 5 none dgo D (mm_T cI cL cS cH) [.ref (a 0), .int x1, .int x2, .int x3] (wd_X7 cI cL cS cH a v_list v_found v_at) (wd_X7 cI cL cS cH a w_list w_found w_at) none) (hE : 3 ≤ dgo) (hd : dgo + 1 ≤ d) (C0 : mm_Cx p s m args meth c RX7 cX7_grow 5 none D (mm_T cI cL cS cH) A) (hA : ∀ q, s.heap.size ≤ q → A q)  {w_list : List Int32} {w_found : List Int32} {w_at : List Int32} (N : Nat)  : ∀ (n : Nat), ∀ (x1 : Int32) (x2 : Int32) (x3 : Int32) (x4 : Int32) (v_list : List Int32) (v_found : List Int32) (v_at : List Int32) (H : Heap) (locs : List Loc) (ls : Array Slot), fX7_grow_15 N go n x1 x2 x3 x4 v_list v_found v_at = some (w_list, w_found, w_at) → va_P D mm_cl (wd_X7 cI cL cS cH a v_list v_found v_at) H → va_D A (wd_X7 cI cL cS cH a v_list v_found v_at) → va_S A s.heap H locs → lv_has ls 5 [(0, .ref (a 0)), (1, .int x1), (2, .int x2), (3, .int x3), (4, .int x4)] → W p l e (mm_rr d) s m args below meth c H locs 0 0 (mm_Z below D A (wd_X7 cI cL cS cH a w_list w_found w_at) none args s) (F0 m 15 ls []) := by
  obtain ⟨hx, hb, hml, hown, hts, hr, hlocks, hK, hSt⟩ := id C0
  intro n
  induction n with
  | zero =>
    intro x1 x2 x3 x4 v_list v_found v_at H locs ls hf
    cases (show none = some _ from hf)
  | succ n ih =>
    intro x1 x2 x3 x4 v_list v_found v_at H locs ls hf hP hD hS hl
    unfold fX7_grow_15 at hf
    refine lv_iload hx hb dX7_grow_15 (lv_at hl 4 rfl) ?_
    refine lv_iload_n hx hb dX7_grow_17 rfl (lv_at hl 1 rfl) ?_
    refine lv_icmp_ge (tgt := 95) hx hb dX7_grow_18 (by decide) (fun c_5 => ?_) (fun c_5 => ?_)
    · have hf := mm_ip hf c_5
      apply mm_sub3 hf
      exact mm_vret C0 hP hD hS dX7_grow_95
    · have hf := mm_in hf c_5
      refine lv_aload_n hx hb dX7_grow_21 rfl (lv_at hl 0 rfl) ?_
      refine mm_get C0 hP iw_X7 0 rfl rfl 2 (by decide) fl_X7_18 rfl dX7_grow_22 ?_
      refine lv_iload hx hb dX7_grow_25 (lv_at hl 4 rfl) ?_
      obtain ⟨h_6, hf⟩ := mm_cks hf
      refine mm_iald C0 hP 3 rfl h_6 dX7_grow_27 ?_
      refine lv_if_lt (tgt := 34) hx hb dX7_grow_28 (by decide) (fun c_7 => ?_) (fun c_7 => ?_)
      · have hf := mm_ip hf c_7
        refine lv_aload_n hx hb dX7_grow_34 rfl (lv_at hl 0 rfl) ?_
        refine mm_get C0 hP iw_X7 0 rfl rfl 2 (by decide) fl_X7_18 rfl dX7_grow_35 ?_
        refine lv_iload hx hb dX7_grow_38 (lv_at hl 4 rfl) ?_
        refine lv_iload_n hx hb dX7_grow_40 rfl (lv_at hl 2 rfl) ?_
        obtain ⟨h_8, hf⟩ := mm_cks hf
        refine mm_iast C0 hP hD hS 3 rfl h_8 dX7_grow_41 (w2 := (wd_X7 cI cL cS cH a v_list v_found (mm_is v_at x4 x2))) rfl (fun H locs hP hD hS => ?_)
        generalize el_9 : (mm_is v_at x4 x2) = l_9 at hP hD
        have hf := mm_nms hf el_9.symm
        refine lv_aload_n hx hb dX7_grow_42 rfl (lv_at hl 0 rfl) ?_
        refine lv_iload_n hx hb dX7_grow_43 rfl (lv_at hl 1 rfl) ?_
        refine lv_iload hx hb dX7_grow_44 (lv_at hl 4 rfl) ?_
        refine lv_iconst (v := 1) hx hb dX7_grow_46 (by decide) ?_
        refine lv_isub hx hb dX7_grow_47 ?_
        obtain ⟨r_10, hc_11, hf⟩ := mm_bd1s hf
        refine mm_callVF (q0 := 0) (ci := 7) (rest := []) C0 lk_X7_68 (ctX7_crossesLaid (a := a) (d := d - 1) (by omega) hc_11) (by omega) rfl hl.1 rfl (mm_cat rfl) dX7_grow_48 hP hD hA hS rfl rfl (fun H locs hP hD hS => ?_)
        refine W.eq (g2 := F0 m 51 ls [.int (mm_b r_10)]) rfl ?_
        refine lv_if_ne (tgt := 81) hx hb dX7_grow_51 (by decide) (fun c_12 => ?_) (fun c_12 => ?_)
        · have hf := mm_in hf (mm_b1 c_12)
          exact tX7_grow_81 hgo hE hd C0 hA N ih _ _ _ _ _ _ _ H locs ls hf hP hD hS (lv_sub hl [0, 1, 2, 3, 4] rfl)
        · have hf := mm_ip hf (mm_b0 c_12)
          refine lv_aload_n hx hb dX7_grow_54 rfl (lv_at hl 0 rfl) ?_
          refine lv_iload_n hx hb dX7_grow_55 rfl (lv_at hl 1 rfl) ?_
          refine lv_iload hx hb dX7_grow_56 (lv_at hl 4 rfl) ?_
          obtain ⟨r_13, hc_14, hf⟩ := mm_bd1s hf
          refine mm_callVF (q0 := 0) (ci := 7) (rest := []) C0 lk_X7_68 (ctX7_crossesLaid (a := a) (d := d - 1) (by omega) hc_14) (by omega) rfl hl.1 rfl (mm_cat rfl) dX7_grow_58 hP hD hA hS rfl rfl (fun H locs hP hD hS => ?_)
          refine W.eq (g2 := F0 m 61 ls [.int (mm_b r_13)]) rfl ?_
          refine lv_if_ne (tgt := 81) hx hb dX7_grow_61 (by decide) (fun c_15 => ?_) (fun c_15 => ?_)
          · have hf := mm_in hf (mm_b1 c_15)
            exact tX7_grow_81 hgo hE hd C0 hA N ih _ _ _ _ _ _ _ H locs ls hf hP hD hS (lv_sub hl [0, 1, 2, 3, 4] rfl)
          · have hf := mm_ip hf (mm_b0 c_15)
            refine lv_aload_n hx hb dX7_grow_64 rfl (lv_at hl 0 rfl) ?_
            refine lv_iload_n hx hb dX7_grow_65 rfl (lv_at hl 1 rfl) ?_
            refine lv_iload_n hx hb dX7_grow_66 rfl (lv_at hl 2 rfl) ?_
            refine lv_iconst (v := 1) hx hb dX7_grow_67 (by decide) ?_
            refine lv_iadd hx hb dX7_grow_68 ?_
            refine lv_bipush (v := 10) hx hb dX7_grow_69 (by decide) ?_
            refine lv_iload_n hx hb dX7_grow_71 rfl (lv_at hl 3 rfl) ?_
            refine lv_imul hx hb dX7_grow_72 ?_
            refine lv_iload hx hb dX7_grow_73 (lv_at hl 4 rfl) ?_
            refine lv_iadd hx hb dX7_grow_75 ?_
            refine lv_iconst (v := 1) hx hb dX7_grow_76 (by decide) ?_
            refine lv_iadd hx hb dX7_grow_77 ?_
            obtain ⟨w_16, w_17, w_18, hc_19, hf⟩ := mm_bd3s hf
            refine mm_callVF (q0 := 0) (ci := 7) (rest := []) C0 lk_X7_43 (hgo a _ _ _ _ _ _ _ _ _ hc_19) (by omega) rfl hl.1 rfl (mm_cat rfl) dX7_grow_78 hP hD hA hS rfl rfl (fun H locs hP hD hS => ?_)
            refine W.eq (g2 := F0 m 81 ls []) rfl ?_
            exact tX7_grow_81 hgo hE hd C0 hA N ih _ _ _ _ _ _ _ H locs ls hf hP hD hS (lv_sub hl [0, 1, 2, 3, 4] rfl)
      · have hf := mm_in hf c_7
        refine lv_goto (tgt := 89) hx hb dX7_grow_31 (by decide) ?_
        exact tX7_grow_89 hgo hE hd C0 hA N ih _ _ _ _ _ _ _ H locs ls hf hP hD hS (lv_sub hl [0, 1, 2, 3, 4] rfl)

def fX7_growo (N : Nat) (go : Int32 → Int32 → Int32 → List Int32 → List Int32 → List Int32 → Option (List Int32 × List Int32 × List Int32)) (x1 : Int32) (x2 : Int32) (x3 : Int32) (v_list : List Int32) (v_found : List Int32) (v_at : List Int32) : Option (List Int32 × List Int32 × List Int32) :=
    if x2 = x1 then
    (mm_bd2 (fX7_enter N x1 x3 v_list v_found) (fun (w_2 : List Int32) (w_3 : List Int32) =>
    some (w_2, w_3, v_at)))
    else (fX7_grow_15 N go N x1 x2 x3 (0 : Int32) v_list v_found v_at)

set_option maxHeartbeats 4000000 in
set_option maxRecDepth 100000 in
theorem ctX7_growo {l : Launch} {D : va_G} {cI cL cS cH : ClassId} {a : Nat → Nat} {x1 : Int32} {x2 : Int32} {x3 : Int32} {v_list : List Int32} {v_found : List Int32} {v_at : List Int32} {w_list : List Int32} {w_found : List Int32} {w_at : List Int32} {N d : Nat} {go : Int32 → Int32 → Int32 → List Int32 → List Int32 → List Int32 → Option (List Int32 × List Int32 × List Int32)} {dgo : Nat} (hgo : ∀ (a : Nat → Nat) (x1 : Int32) (x2 : Int32) (x3 : Int32) (v_list : List Int32) (v_found : List Int32) (v_at : List Int32) (w_list : List Int32) (w_found : List Int32) (w_at : List Int32), go x1 x2 x3 v_list v_found v_at = some (w_list, w_found, w_at) → mm_Ct l yX7_grow cX7_grow 5 none dgo D (mm_T cI cL cS cH) [.ref (a 0), .int x1, .int x2, .int x3] (wd_X7 cI cL cS cH a v_list v_found v_at) (wd_X7 cI cL cS cH a w_list w_found w_at) none) (hE : 3 ≤ dgo) (hd : dgo + 1 ≤ d) (hf : fX7_growo N go x1 x2 x3 v_list v_found v_at = some (w_list, w_found, w_at)) : mm_Ct l yX7_grow cX7_grow 5 none d D (mm_T cI cL cS cH) [.ref (a 0), .int x1, .int x2, .int x3] (wd_X7 cI cL cS cH a v_list v_found v_at) (wd_X7 cI cL cS cH a w_list w_found w_at) none := by
  refine mm_of (by decide) (Nat.le_of_ble_eq_true rfl) ?_
  intro p e s m args below meth c A H locs ls C0 hP hD hA hS hl
  have C0 : mm_Cx p s m args meth c RX7 cX7_grow 5 none D (mm_T cI cL cS cH) A := C0
  obtain ⟨hx, hb, hml, hown, hts, hr, hlocks, hK, hSt⟩ := id C0
  have hl : lv_has ls 5 [(0, .ref (a 0)), (1, .int x1), (2, .int x2), (3, .int x3)] := hl
  unfold fX7_growo at hf
  refine lv_iload_n hx hb dX7_grow_0 rfl (lv_at hl 2 rfl) ?_
  refine lv_iload_n hx hb dX7_grow_1 rfl (lv_at hl 1 rfl) ?_
  refine lv_icmp_ne (tgt := 12) hx hb dX7_grow_2 (by decide) (fun c_1 => ?_) (fun c_1 => ?_)
  · have hf := mm_in hf c_1
    refine lv_iconst (v := 0) hx hb dX7_grow_12 (by decide) ?_
    refine lv_istore (lv' := [(4, .int (0 : Int32)), (0, .ref (a 0)), (1, .int x1), (2, .int x2), (3, .int x3)]) hx hb dX7_grow_13 hl (by decide) rfl (fun ls hl => ?_)
    exact tX7_grow_15 hgo hE hd C0 hA N  N _ _ _ _ _ _ _ H locs ls hf hP hD hS (lv_sub hl [1, 2, 3, 4, 0] rfl)
  · have hf := mm_ip hf c_1
    refine lv_aload_n hx hb dX7_grow_5 rfl (lv_at hl 0 rfl) ?_
    refine lv_iload_n hx hb dX7_grow_6 rfl (lv_at hl 1 rfl) ?_
    refine lv_iload_n hx hb dX7_grow_7 rfl (lv_at hl 3 rfl) ?_
    obtain ⟨w_2, w_3, hc_4, hf⟩ := mm_bd2s hf
    refine mm_callVF (q0 := 0) (ci := 7) (rest := []) C0 lk_X7_64 (ctX7_enter (a := a) (d := d - 1) (by omega) hc_4) (by omega) rfl hl.1 rfl (mm_cat rfl) dX7_grow_8 hP hD hA hS rfl rfl (fun H locs hP hD hS => ?_)
    refine W.eq (g2 := F0 m 11 ls []) rfl ?_
    apply mm_sub3 hf
    exact mm_vret C0 hP hD hS dX7_grow_11

def fX7_grow (N : Nat) : Nat → Int32 → Int32 → Int32 → List Int32 → List Int32 → List Int32 → Option (List Int32 × List Int32 × List Int32)
  | 0 => fun _ _ _ _ _ _ => none
  | M + 1 => fX7_growo N (fX7_grow N M)
set_option maxHeartbeats 4000000 in
set_option maxRecDepth 100000 in
theorem ctX7_grow {l : Launch} {D : va_G} {cI cL cS cH : ClassId} {N : Nat} : ∀ (M d : Nat), 3 + 1 * M ≤ d → ∀ (a : Nat → Nat) (x1 : Int32) (x2 : Int32) (x3 : Int32) (v_list : List Int32) (v_found : List Int32) (v_at : List Int32) (w_list : List Int32) (w_found : List Int32) (w_at : List Int32), fX7_grow N M x1 x2 x3 v_list v_found v_at = some (w_list, w_found, w_at) → mm_Ct l yX7_grow cX7_grow 5 none d D (mm_T cI cL cS cH) [.ref (a 0), .int x1, .int x2, .int x3] (wd_X7 cI cL cS cH a v_list v_found v_at) (wd_X7 cI cL cS cH a w_list w_found w_at) none := by
  intro M
  induction M with
  | zero =>
    intro d hd a x1 x2 x3 v_list v_found v_at w_list w_found w_at hf
    cases (show none = some _ from hf)
  | succ M ih =>
    intro d hd a x1 x2 x3 v_list v_found v_at w_list w_found w_at hf
    exact ctX7_growo (N := N) (ih (3 + 1 * M) (Nat.le_refl _)) (Nat.le_add_right _ _) (by omega) hf

theorem dX7_howMany_0 : decode cX7_howMany 0 = .ok (.aload_n 0, 1) := by decide +kernel
theorem dX7_howMany_1 : decode cX7_howMany 1 = .ok (.getfield 15, 3) := by decide +kernel
theorem dX7_howMany_4 : decode cX7_howMany 4 = .ok (.iload_n 1, 1) := by decide +kernel
theorem dX7_howMany_5 : decode cX7_howMany 5 = .ok (.iaload, 1) := by decide +kernel
theorem dX7_howMany_6 : decode cX7_howMany 6 = .ok (.ifCond .ne 18, 3) := by decide +kernel
theorem dX7_howMany_9 : decode cX7_howMany 9 = .ok (.aload_n 0, 1) := by decide +kernel
theorem dX7_howMany_10 : decode cX7_howMany 10 = .ok (.getfield 18, 3) := by decide +kernel
theorem dX7_howMany_13 : decode cX7_howMany 13 = .ok (.iconst (-1), 1) := by decide +kernel
theorem dX7_howMany_14 : decode cX7_howMany 14 = .ok (.invokestatic 21, 3) := by decide +kernel
theorem dX7_howMany_17 : decode cX7_howMany 17 = .ok (.aload_n 0, 1) := by decide +kernel
theorem dX7_howMany_18 : decode cX7_howMany 18 = .ok (.iload_n 1, 1) := by decide +kernel
theorem dX7_howMany_19 : decode cX7_howMany 19 = .ok (.iconst 0, 1) := by decide +kernel
theorem dX7_howMany_20 : decode cX7_howMany 20 = .ok (.iconst 0, 1) := by decide +kernel
theorem dX7_howMany_21 : decode cX7_howMany 21 = .ok (.invokevirtual 43, 3) := by decide +kernel
theorem dX7_howMany_24 : decode cX7_howMany 24 = .ok (.aload_n 0, 1) := by decide +kernel
theorem dX7_howMany_25 : decode cX7_howMany 25 = .ok (.getfield 15, 3) := by decide +kernel
theorem dX7_howMany_28 : decode cX7_howMany 28 = .ok (.iload_n 1, 1) := by decide +kernel
theorem dX7_howMany_29 : decode cX7_howMany 29 = .ok (.iaload, 1) := by decide +kernel
theorem dX7_howMany_30 : decode cX7_howMany 30 = .ok (.ireturn, 1) := by decide +kernel
def fX7_howMany_24 (N : Nat)  (x1 : Int32) (v_list : List Int32) (v_found : List Int32) (v_at : List Int32) : Option (Int32 × List Int32 × List Int32 × List Int32) :=
    mm_ck (mm_inb x1 v_found.length) (some ((mm_ig v_found x1), v_list, v_found, v_at))

set_option maxHeartbeats 4000000 in
set_option maxRecDepth 100000 in
theorem tX7_howMany_24 {p : Program} {l : Launch} {e : Env} {s : State} {m : MethodId} {args : Array Value} {below : List Frame} {meth : Method} {c : Code} {D : va_G} {cI cL cS cH : ClassId} {A : Nat → Prop} {d : Nat} {a : Nat → Nat} (hd : 13 ≤ d) (C0 : mm_Cx p s m args meth c RX7 cX7_howMany 2 (some .int) D (mm_T cI cL cS cH) A) (hA : ∀ q, s.heap.size ≤ q → A q)  {r : Int32} {w_list : List Int32} {w_found : List Int32} {w_at : List Int32} (N : Nat)  : ∀ (x1 : Int32) (v_list : List Int32) (v_found : List Int32) (v_at : List Int32) (H : Heap) (locs : List Loc) (ls : Array Slot), fX7_howMany_24 N x1 v_list v_found v_at = some (r, w_list, w_found, w_at) → va_P D mm_cl (wd_X7 cI cL cS cH a v_list v_found v_at) H → va_D A (wd_X7 cI cL cS cH a v_list v_found v_at) → va_S A s.heap H locs → lv_has ls 2 [(0, .ref (a 0)), (1, .int x1)] → W p l e (mm_rr d) s m args below meth c H locs 0 0 (mm_Z below D A (wd_X7 cI cL cS cH a w_list w_found w_at) (some (.int r)) args s) (F0 m 24 ls []) := by
  obtain ⟨hx, hb, hml, hown, hts, hr, hlocks, hK, hSt⟩ := id C0
  intro x1 v_list v_found v_at H locs ls hf hP hD hS hl
  unfold fX7_howMany_24 at hf
  refine lv_aload_n hx hb dX7_howMany_24 rfl (lv_at hl 0 rfl) ?_
  refine mm_get C0 hP iw_X7 0 rfl rfl 1 (by decide) fl_X7_15 rfl dX7_howMany_25 ?_
  refine lv_iload_n hx hb dX7_howMany_28 rfl (lv_at hl 1 rfl) ?_
  obtain ⟨h_9, hf⟩ := mm_cks hf
  refine mm_iald C0 hP 2 rfl h_9 dX7_howMany_29 ?_
  apply mm_sub4 hf
  exact mm_iret C0 hP hD hS dX7_howMany_30

def fX7_howMany (N : Nat) (x1 : Int32) (v_list : List Int32) (v_found : List Int32) (v_at : List Int32) : Option (Int32 × List Int32 × List Int32 × List Int32) :=
    mm_ck (mm_inb x1 v_found.length) (if (mm_ig v_found x1) = 0 then
    (mm_bd1 (fJ7_fill_53178 N (-1 : Int32) v_at) (fun (w_3 : List Int32) =>
    mm_bd3 (fX7_grow N 9 x1 (0 : Int32) (0 : Int32) v_list v_found w_3) (fun (w_5 : List Int32) (w_6 : List Int32) (w_7 : List Int32) =>
    fX7_howMany_24 N x1 w_5 w_6 w_7)))
    else (fX7_howMany_24 N x1 v_list v_found v_at))

set_option maxHeartbeats 4000000 in
set_option maxRecDepth 100000 in
theorem ctX7_howMany {l : Launch} {D : va_G} {cI cL cS cH : ClassId} {a : Nat → Nat} {x1 : Int32} {v_list : List Int32} {v_found : List Int32} {v_at : List Int32} {r : Int32} {w_list : List Int32} {w_found : List Int32} {w_at : List Int32} {N d : Nat} (hd : 13 ≤ d) (hf : fX7_howMany N x1 v_list v_found v_at = some (r, w_list, w_found, w_at)) : mm_Ct l yX7_howMany cX7_howMany 2 (some .int) d D (mm_T cI cL cS cH) [.ref (a 0), .int x1] (wd_X7 cI cL cS cH a v_list v_found v_at) (wd_X7 cI cL cS cH a w_list w_found w_at) (some (.int r)) := by
  refine mm_of (by decide) (Nat.le_of_ble_eq_true rfl) ?_
  intro p e s m args below meth c A H locs ls C0 hP hD hA hS hl
  have C0 : mm_Cx p s m args meth c RX7 cX7_howMany 2 (some .int) D (mm_T cI cL cS cH) A := C0
  obtain ⟨hx, hb, hml, hown, hts, hr, hlocks, hK, hSt⟩ := id C0
  have hl : lv_has ls 2 [(0, .ref (a 0)), (1, .int x1)] := hl
  unfold fX7_howMany at hf
  refine lv_aload_n hx hb dX7_howMany_0 rfl (lv_at hl 0 rfl) ?_
  refine mm_get C0 hP iw_X7 0 rfl rfl 1 (by decide) fl_X7_15 rfl dX7_howMany_1 ?_
  refine lv_iload_n hx hb dX7_howMany_4 rfl (lv_at hl 1 rfl) ?_
  obtain ⟨h_1, hf⟩ := mm_cks hf
  refine mm_iald C0 hP 2 rfl h_1 dX7_howMany_5 ?_
  refine lv_if_ne (tgt := 24) hx hb dX7_howMany_6 (by decide) (fun c_2 => ?_) (fun c_2 => ?_)
  · have hf := mm_in hf c_2
    exact tX7_howMany_24 hd C0 hA N  _ _ _ _ H locs ls hf hP hD hS (lv_sub hl [0, 1] rfl)
  · have hf := mm_ip hf c_2
    refine lv_aload_n hx hb dX7_howMany_9 rfl (lv_at hl 0 rfl) ?_
    refine mm_get C0 hP iw_X7 0 rfl rfl 2 (by decide) fl_X7_18 rfl dX7_howMany_10 ?_
    refine lv_iconst (v := -1) hx hb dX7_howMany_13 (by decide) ?_
    obtain ⟨w_3, hc_4, hf⟩ := mm_bd1s hf
    refine mm_callT (w2 := (wd_X7 cI cL cS cH a v_list v_found w_3)) (rest := []) C0 lk_X7_21 (ctJ7_fill_53178 (a := (fun k => a (k + 3))) (d := d - 1) (by omega) hc_4) (by omega) rfl hl.1 rfl (mm_cat rfl) dX7_howMany_14 hP hD hA hS [false, false, false, true] rfl rfl rfl rfl (fun H locs hP hD hS => ?_)
    refine W.eq (g2 := F0 m 17 ls []) rfl ?_
    refine lv_aload_n hx hb dX7_howMany_17 rfl (lv_at hl 0 rfl) ?_
    refine lv_iload_n hx hb dX7_howMany_18 rfl (lv_at hl 1 rfl) ?_
    refine lv_iconst (v := 0) hx hb dX7_howMany_19 (by decide) ?_
    refine lv_iconst (v := 0) hx hb dX7_howMany_20 (by decide) ?_
    obtain ⟨w_5, w_6, w_7, hc_8, hf⟩ := mm_bd3s hf
    refine mm_callVF (q0 := 0) (ci := 7) (rest := []) C0 lk_X7_43 (ctX7_grow (N := N) 9 (d - 1) (by omega) a _ _ _ _ _ _ _ _ _ hc_8) (by omega) rfl hl.1 rfl (mm_cat rfl) dX7_howMany_21 hP hD hA hS rfl rfl (fun H locs hP hD hS => ?_)
    refine W.eq (g2 := F0 m 24 ls []) rfl ?_
    exact tX7_howMany_24 hd C0 hA N  _ _ _ _ H locs ls hf hP hD hS (lv_sub hl [0, 1] rfl)

theorem dX7_orderAt_0 : decode cX7_orderAt 0 = .ok (.iload_n 2, 1) := by decide +kernel
theorem dX7_orderAt_1 : decode cX7_orderAt 1 = .ok (.ifCond .lt 27, 3) := by decide +kernel
theorem dX7_orderAt_4 : decode cX7_orderAt 4 = .ok (.iload_n 2, 1) := by decide +kernel
theorem dX7_orderAt_5 : decode cX7_orderAt 5 = .ok (.aload_n 0, 1) := by decide +kernel
theorem dX7_orderAt_6 : decode cX7_orderAt 6 = .ok (.iload_n 1, 1) := by decide +kernel
theorem dX7_orderAt_7 : decode cX7_orderAt 7 = .ok (.invokevirtual 47, 3) := by decide +kernel
theorem dX7_orderAt_10 : decode cX7_orderAt 10 = .ok (.if_icmp .ge 18, 3) := by decide +kernel
theorem dX7_orderAt_13 : decode cX7_orderAt 13 = .ok (.aload_n 0, 1) := by decide +kernel
theorem dX7_orderAt_14 : decode cX7_orderAt 14 = .ok (.getfield 11, 3) := by decide +kernel
theorem dX7_orderAt_17 : decode cX7_orderAt 17 = .ok (.getstatic 51, 3) := by decide +kernel
theorem dX7_orderAt_20 : decode cX7_orderAt 20 = .ok (.iload_n 1, 1) := by decide +kernel
theorem dX7_orderAt_21 : decode cX7_orderAt 21 = .ok (.iaload, 1) := by decide +kernel
theorem dX7_orderAt_22 : decode cX7_orderAt 22 = .ok (.iload_n 2, 1) := by decide +kernel
theorem dX7_orderAt_23 : decode cX7_orderAt 23 = .ok (.iadd, 1) := by decide +kernel
theorem dX7_orderAt_24 : decode cX7_orderAt 24 = .ok (.iaload, 1) := by decide +kernel
theorem dX7_orderAt_25 : decode cX7_orderAt 25 = .ok (.goto 4, 3) := by decide +kernel
theorem dX7_orderAt_28 : decode cX7_orderAt 28 = .ok (.iconst (-1), 1) := by decide +kernel
theorem dX7_orderAt_29 : decode cX7_orderAt 29 = .ok (.ireturn, 1) := by decide +kernel
def fX7_orderAt (N : Nat) (x1 : Int32) (x2 : Int32) (v_list : List Int32) (v_found : List Int32) (v_at : List Int32) : Option (Int32 × List Int32 × List Int32 × List Int32) :=
    if x2 < 0 then
    (some ((-1 : Int32), v_list, v_found, v_at))
    else (mm_bd4 (fX7_howMany N x1 v_list v_found v_at) (fun (r_2 : Int32) (w_3 : List Int32) (w_4 : List Int32) (w_5 : List Int32) =>
    if r_2 ≤ x2 then
    (some ((-1 : Int32), w_3, w_4, w_5))
    else (mm_ck (mm_inb x1 mm_START.length) (mm_ck (mm_inb ((mm_ig mm_START x1) + x2) w_3.length) (some ((mm_ig w_3 ((mm_ig mm_START x1) + x2)), w_3, w_4, w_5))))))

set_option maxHeartbeats 4000000 in
set_option maxRecDepth 100000 in
theorem ctX7_orderAt {l : Launch} {D : va_G} {cI cL cS cH : ClassId} {a : Nat → Nat} {x1 : Int32} {x2 : Int32} {v_list : List Int32} {v_found : List Int32} {v_at : List Int32} {r : Int32} {w_list : List Int32} {w_found : List Int32} {w_at : List Int32} {N d : Nat} (hd : 14 ≤ d) (hf : fX7_orderAt N x1 x2 v_list v_found v_at = some (r, w_list, w_found, w_at)) : mm_Ct l yX7_orderAt cX7_orderAt 3 (some .int) d D (mm_T cI cL cS cH) [.ref (a 0), .int x1, .int x2] (wd_X7 cI cL cS cH a v_list v_found v_at) (wd_X7 cI cL cS cH a w_list w_found w_at) (some (.int r)) := by
  refine mm_of (by decide) (Nat.le_of_ble_eq_true rfl) ?_
  intro p e s m args below meth c A H locs ls C0 hP hD hA hS hl
  have C0 : mm_Cx p s m args meth c RX7 cX7_orderAt 3 (some .int) D (mm_T cI cL cS cH) A := C0
  obtain ⟨hx, hb, hml, hown, hts, hr, hlocks, hK, hSt⟩ := id C0
  obtain ⟨⟨t_START, hZ_START, hT_START⟩, ⟨t_ABOVE, hZ_ABOVE, hT_ABOVE⟩, ⟨t_OWN, hZ_OWN, hT_OWN⟩, hNest⟩ := hSt
  have hl : lv_has ls 3 [(0, .ref (a 0)), (1, .int x1), (2, .int x2)] := hl
  unfold fX7_orderAt at hf
  refine lv_iload_n hx hb dX7_orderAt_0 rfl (lv_at hl 2 rfl) ?_
  refine lv_if_lt (tgt := 28) hx hb dX7_orderAt_1 (by decide) (fun c_1 => ?_) (fun c_1 => ?_)
  · have hf := mm_ip hf c_1
    refine lv_iconst (v := -1) hx hb dX7_orderAt_28 (by decide) ?_
    apply mm_sub4 hf
    exact mm_iret C0 hP hD hS dX7_orderAt_29
  · have hf := mm_in hf c_1
    refine lv_iload_n hx hb dX7_orderAt_4 rfl (lv_at hl 2 rfl) ?_
    refine lv_aload_n hx hb dX7_orderAt_5 rfl (lv_at hl 0 rfl) ?_
    refine lv_iload_n hx hb dX7_orderAt_6 rfl (lv_at hl 1 rfl) ?_
    obtain ⟨r_2, w_3, w_4, w_5, hc_6, hf⟩ := mm_bd4s hf
    refine mm_callVF (q0 := 0) (ci := 7) (rest := [.int x2]) C0 lk_X7_47 (ctX7_howMany (a := a) (d := d - 1) (by omega) hc_6) (by omega) rfl hl.1 rfl (mm_cat rfl) dX7_orderAt_7 hP hD hA hS rfl rfl (fun H locs hP hD hS => ?_)
    refine W.eq (g2 := F0 m 10 ls [.int r_2, .int x2]) rfl ?_
    refine lv_icmp_ge (tgt := 28) hx hb dX7_orderAt_10 (by decide) (fun c_7 => ?_) (fun c_7 => ?_)
    · have hf := mm_ip hf c_7
      refine lv_iconst (v := -1) hx hb dX7_orderAt_28 (by decide) ?_
      apply mm_sub4 hf
      exact mm_iret C0 hP hD hS dX7_orderAt_29
    · have hf := mm_in hf c_7
      refine lv_aload_n hx hb dX7_orderAt_13 rfl (lv_at hl 0 rfl) ?_
      refine mm_get C0 hP iw_X7 0 rfl rfl 0 (by decide) fl_X7_11 rfl dX7_orderAt_14 ?_
      refine va_gets hx hb hZ_START hS hown (hts _ fl_X7_51) (fun _ h9 => h9) dX7_orderAt_17 ?_
      refine lv_iload_n hx hb dX7_orderAt_20 rfl (lv_at hl 1 rfl) ?_
      obtain ⟨h_8, hf⟩ := mm_cks hf
      refine va_ti (v := .int (mm_ig mm_START x1)) hx hb hT_START hS (mm_inbs h_8).1 rfl dX7_orderAt_21 ?_
      refine lv_iload_n hx hb dX7_orderAt_22 rfl (lv_at hl 2 rfl) ?_
      refine lv_iadd hx hb dX7_orderAt_23 ?_
      obtain ⟨h_9, hf⟩ := mm_cks hf
      refine mm_iald C0 hP 1 rfl h_9 dX7_orderAt_24 ?_
      refine lv_goto (tgt := 29) hx hb dX7_orderAt_25 (by decide) ?_
      apply mm_sub4 hf
      exact mm_iret C0 hP hD hS dX7_orderAt_29

theorem dX7_isBent_0 : decode cX7_isBent 0 = .ok (.aload_n 0, 1) := by decide +kernel
theorem dX7_isBent_1 : decode cX7_isBent 1 = .ok (.iload_n 1, 1) := by decide +kernel
theorem dX7_isBent_2 : decode cX7_isBent 2 = .ok (.aload_n 0, 1) := by decide +kernel
theorem dX7_isBent_3 : decode cX7_isBent 3 = .ok (.getfield 11, 3) := by decide +kernel
theorem dX7_isBent_6 : decode cX7_isBent 6 = .ok (.getstatic 51, 3) := by decide +kernel
theorem dX7_isBent_9 : decode cX7_isBent 9 = .ok (.iload_n 1, 1) := by decide +kernel
theorem dX7_isBent_10 : decode cX7_isBent 10 = .ok (.iaload, 1) := by decide +kernel
theorem dX7_isBent_11 : decode cX7_isBent 11 = .ok (.iload_n 2, 1) := by decide +kernel
theorem dX7_isBent_12 : decode cX7_isBent 12 = .ok (.iadd, 1) := by decide +kernel
theorem dX7_isBent_13 : decode cX7_isBent 13 = .ok (.iaload, 1) := by decide +kernel
theorem dX7_isBent_14 : decode cX7_isBent 14 = .ok (.invokevirtual 58, 3) := by decide +kernel
theorem dX7_isBent_17 : decode cX7_isBent 17 = .ok (.ifCond .eq 16, 3) := by decide +kernel
theorem dX7_isBent_20 : decode cX7_isBent 20 = .ok (.aload_n 0, 1) := by decide +kernel
theorem dX7_isBent_21 : decode cX7_isBent 21 = .ok (.iload_n 1, 1) := by decide +kernel
theorem dX7_isBent_22 : decode cX7_isBent 22 = .ok (.invokevirtual 61, 3) := by decide +kernel
theorem dX7_isBent_25 : decode cX7_isBent 25 = .ok (.iload_n 3, 1) := by decide +kernel
theorem dX7_isBent_26 : decode cX7_isBent 26 = .ok (.if_icmp .ne 7, 3) := by decide +kernel
theorem dX7_isBent_29 : decode cX7_isBent 29 = .ok (.iconst 1, 1) := by decide +kernel
theorem dX7_isBent_30 : decode cX7_isBent 30 = .ok (.goto 4, 3) := by decide +kernel
theorem dX7_isBent_33 : decode cX7_isBent 33 = .ok (.iconst 0, 1) := by decide +kernel
theorem dX7_isBent_34 : decode cX7_isBent 34 = .ok (.ireturn, 1) := by decide +kernel
def fX7_isBent (N : Nat) (x1 : Int32) (x2 : Int32) (x3 : Int32) (v_list : List Int32) (v_at : List Int32) : Option (Bool × List Int32) :=
    mm_ck (mm_inb x1 mm_START.length) (mm_ck (mm_inb ((mm_ig mm_START x1) + x2) v_list.length) (mm_bd2 (fX7_lay N x1 (mm_ig v_list ((mm_ig mm_START x1) + x2)) v_at) (fun (r_3 : Bool) (w_4 : List Int32) =>
    if r_3 = false then
    (some (false, w_4))
    else (mm_bd1 (fX7_bits N x1 w_4) (fun (r_7 : Int32) =>
    if r_7 = x3 then
    (some (true, w_4))
    else (some (false, w_4)))))))

set_option maxHeartbeats 4000000 in
set_option maxRecDepth 100000 in
theorem ctX7_isBent {l : Launch} {D : va_G} {cI cL cS cH : ClassId} {a : Nat → Nat} {x1 : Int32} {x2 : Int32} {x3 : Int32} {v_list : List Int32} {v_found : List Int32} {v_at : List Int32} {r : Bool} {w_at : List Int32} {N d : Nat} (hd : 3 ≤ d) (hf : fX7_isBent N x1 x2 x3 v_list v_at = some (r, w_at)) : mm_Ct l yX7_isBent cX7_isBent 4 (some .boolean) d D (mm_T cI cL cS cH) [.ref (a 0), .int x1, .int x2, .int x3] (wd_X7 cI cL cS cH a v_list v_found v_at) (wd_X7 cI cL cS cH a v_list v_found w_at) (some (.int (mm_b r))) := by
  refine mm_of (by decide) (Nat.le_of_ble_eq_true rfl) ?_
  intro p e s m args below meth c A H locs ls C0 hP hD hA hS hl
  have C0 : mm_Cx p s m args meth c RX7 cX7_isBent 4 (some .boolean) D (mm_T cI cL cS cH) A := C0
  obtain ⟨hx, hb, hml, hown, hts, hr, hlocks, hK, hSt⟩ := id C0
  obtain ⟨⟨t_START, hZ_START, hT_START⟩, ⟨t_ABOVE, hZ_ABOVE, hT_ABOVE⟩, ⟨t_OWN, hZ_OWN, hT_OWN⟩, hNest⟩ := hSt
  have hl : lv_has ls 4 [(0, .ref (a 0)), (1, .int x1), (2, .int x2), (3, .int x3)] := hl
  unfold fX7_isBent at hf
  refine lv_aload_n hx hb dX7_isBent_0 rfl (lv_at hl 0 rfl) ?_
  refine lv_iload_n hx hb dX7_isBent_1 rfl (lv_at hl 1 rfl) ?_
  refine lv_aload_n hx hb dX7_isBent_2 rfl (lv_at hl 0 rfl) ?_
  refine mm_get C0 hP iw_X7 0 rfl rfl 0 (by decide) fl_X7_11 rfl dX7_isBent_3 ?_
  refine va_gets hx hb hZ_START hS hown (hts _ fl_X7_51) (fun _ h9 => h9) dX7_isBent_6 ?_
  refine lv_iload_n hx hb dX7_isBent_9 rfl (lv_at hl 1 rfl) ?_
  obtain ⟨h_1, hf⟩ := mm_cks hf
  refine va_ti (v := .int (mm_ig mm_START x1)) hx hb hT_START hS (mm_inbs h_1).1 rfl dX7_isBent_10 ?_
  refine lv_iload_n hx hb dX7_isBent_11 rfl (lv_at hl 2 rfl) ?_
  refine lv_iadd hx hb dX7_isBent_12 ?_
  obtain ⟨h_2, hf⟩ := mm_cks hf
  refine mm_iald C0 hP 1 rfl h_2 dX7_isBent_13 ?_
  obtain ⟨r_3, w_4, hc_5, hf⟩ := mm_bd2s hf
  refine mm_callVF (q0 := 0) (ci := 7) (rest := []) C0 lk_X7_58 (ctX7_lay (a := a) (d := d - 1) (by omega) hc_5) (by omega) rfl hl.1 rfl (mm_cat rfl) dX7_isBent_14 hP hD hA hS rfl rfl (fun H locs hP hD hS => ?_)
  refine W.eq (g2 := F0 m 17 ls [.int (mm_b r_3)]) rfl ?_
  refine lv_if_eq (tgt := 33) hx hb dX7_isBent_17 (by decide) (fun c_6 => ?_) (fun c_6 => ?_)
  · have hf := mm_ip hf (mm_b0 c_6)
    refine lv_iconst (v := 0) hx hb dX7_isBent_33 (by decide) ?_
    apply mm_sub2 hf
    exact mm_zret (v := false) C0 hP hD hS dX7_isBent_34 (by decide)
  · have hf := mm_in hf (mm_b1 c_6)
    refine lv_aload_n hx hb dX7_isBent_20 rfl (lv_at hl 0 rfl) ?_
    refine lv_iload_n hx hb dX7_isBent_21 rfl (lv_at hl 1 rfl) ?_
    obtain ⟨r_7, hc_8, hf⟩ := mm_bd1s hf
    refine mm_callVF (q0 := 0) (ci := 7) (rest := []) C0 lk_X7_61 (ctX7_bits (a := a) (d := d - 1) (by omega) hc_8) (by omega) rfl hl.1 rfl (mm_cat rfl) dX7_isBent_22 hP hD hA hS rfl rfl (fun H locs hP hD hS => ?_)
    refine W.eq (g2 := F0 m 25 ls [.int r_7]) rfl ?_
    refine lv_iload_n hx hb dX7_isBent_25 rfl (lv_at hl 3 rfl) ?_
    refine lv_icmp_ne (tgt := 33) hx hb dX7_isBent_26 (by decide) (fun c_9 => ?_) (fun c_9 => ?_)
    · have hf := mm_in hf c_9
      refine lv_iconst (v := 0) hx hb dX7_isBent_33 (by decide) ?_
      apply mm_sub2 hf
      exact mm_zret (v := false) C0 hP hD hS dX7_isBent_34 (by decide)
    · have hf := mm_ip hf c_9
      refine lv_iconst (v := 1) hx hb dX7_isBent_29 (by decide) ?_
      refine lv_goto (tgt := 34) hx hb dX7_isBent_30 (by decide) ?_
      apply mm_sub2 hf
      exact mm_zret (v := true) C0 hP hD hS dX7_isBent_34 (by decide)

theorem dX7_howManyBent_0 : decode cX7_howManyBent 0 = .ok (.iconst 0, 1) := by decide +kernel
theorem dX7_howManyBent_1 : decode cX7_howManyBent 1 = .ok (.istore_n 3, 1) := by decide +kernel
theorem dX7_howManyBent_2 : decode cX7_howManyBent 2 = .ok (.aload_n 0, 1) := by decide +kernel
theorem dX7_howManyBent_3 : decode cX7_howManyBent 3 = .ok (.iload_n 1, 1) := by decide +kernel
theorem dX7_howManyBent_4 : decode cX7_howManyBent 4 = .ok (.invokevirtual 47, 3) := by decide +kernel
theorem dX7_howManyBent_7 : decode cX7_howManyBent 7 = .ok (.istore 4, 2) := by decide +kernel
theorem dX7_howManyBent_9 : decode cX7_howManyBent 9 = .ok (.iconst 0, 1) := by decide +kernel
theorem dX7_howManyBent_10 : decode cX7_howManyBent 10 = .ok (.istore 5, 2) := by decide +kernel
theorem dX7_howManyBent_12 : decode cX7_howManyBent 12 = .ok (.iload 5, 2) := by decide +kernel
theorem dX7_howManyBent_14 : decode cX7_howManyBent 14 = .ok (.iload 4, 2) := by decide +kernel
theorem dX7_howManyBent_16 : decode cX7_howManyBent 16 = .ok (.if_icmp .ge 23, 3) := by decide +kernel
theorem dX7_howManyBent_19 : decode cX7_howManyBent 19 = .ok (.aload_n 0, 1) := by decide +kernel
theorem dX7_howManyBent_20 : decode cX7_howManyBent 20 = .ok (.iload_n 1, 1) := by decide +kernel
theorem dX7_howManyBent_21 : decode cX7_howManyBent 21 = .ok (.iload 5, 2) := by decide +kernel
theorem dX7_howManyBent_23 : decode cX7_howManyBent 23 = .ok (.iload_n 2, 1) := by decide +kernel
theorem dX7_howManyBent_24 : decode cX7_howManyBent 24 = .ok (.invokevirtual 54, 3) := by decide +kernel
theorem dX7_howManyBent_27 : decode cX7_howManyBent 27 = .ok (.ifCond .eq 6, 3) := by decide +kernel
theorem dX7_howManyBent_30 : decode cX7_howManyBent 30 = .ok (.iinc 3 1, 3) := by decide +kernel
theorem dX7_howManyBent_33 : decode cX7_howManyBent 33 = .ok (.iinc 5 1, 3) := by decide +kernel
theorem dX7_howManyBent_36 : decode cX7_howManyBent 36 = .ok (.goto (-24), 3) := by decide +kernel
theorem dX7_howManyBent_39 : decode cX7_howManyBent 39 = .ok (.iload_n 3, 1) := by decide +kernel
theorem dX7_howManyBent_40 : decode cX7_howManyBent 40 = .ok (.ireturn, 1) := by decide +kernel
def fX7_howManyBent_33 (N : Nat) (k_12 : Int32 → Int32 → Int32 → Int32 → Int32 → List Int32 → List Int32 → List Int32 → Option (Int32 × List Int32 × List Int32 × List Int32)) (x1 : Int32) (x2 : Int32) (x3 : Int32) (x4 : Int32) (x5 : Int32) (v_list : List Int32) (v_found : List Int32) (v_at : List Int32) : Option (Int32 × List Int32 × List Int32 × List Int32) :=
    mm_nm (x5 + (1 : Int32)) (fun (y_12 : Int32) =>
    k_12 x1 x2 x3 x4 y_12 v_list v_found v_at)

set_option maxHeartbeats 4000000 in
set_option maxRecDepth 100000 in
theorem tX7_howManyBent_33 {p : Program} {l : Launch} {e : Env} {s : State} {m : MethodId} {args : Array Value} {below : List Frame} {meth : Method} {c : Code} {D : va_G} {cI cL cS cH : ClassId} {A : Nat → Prop} {d : Nat} {a : Nat → Nat} (hd : 14 ≤ d) (C0 : mm_Cx p s m args meth c RX7 cX7_howManyBent 6 (some .int) D (mm_T cI cL cS cH) A) (hA : ∀ q, s.heap.size ≤ q → A q)  {r : Int32} {w_list : List Int32} {w_found : List Int32} {w_at : List Int32} (N : Nat) {k_12 : Int32 → Int32 → Int32 → Int32 → Int32 → List Int32 → List Int32 → List Int32 → Option (Int32 × List Int32 × List Int32 × List Int32)} (hk_12 : ∀ (x1 : Int32) (x2 : Int32) (x3 : Int32) (x4 : Int32) (x5 : Int32) (v_list : List Int32) (v_found : List Int32) (v_at : List Int32) (H : Heap) (locs : List Loc) (ls : Array Slot), k_12 x1 x2 x3 x4 x5 v_list v_found v_at = some (r, w_list, w_found, w_at) → va_P D mm_cl (wd_X7 cI cL cS cH a v_list v_found v_at) H → va_D A (wd_X7 cI cL cS cH a v_list v_found v_at) → va_S A s.heap H locs → lv_has ls 6 [(0, .ref (a 0)), (1, .int x1), (2, .int x2), (3, .int x3), (4, .int x4), (5, .int x5)] → W p l e (mm_rr d) s m args below meth c H locs 0 0 (mm_Z below D A (wd_X7 cI cL cS cH a w_list w_found w_at) (some (.int r)) args s) (F0 m 12 ls [])) : ∀ (x1 : Int32) (x2 : Int32) (x3 : Int32) (x4 : Int32) (x5 : Int32) (v_list : List Int32) (v_found : List Int32) (v_at : List Int32) (H : Heap) (locs : List Loc) (ls : Array Slot), fX7_howManyBent_33 N k_12 x1 x2 x3 x4 x5 v_list v_found v_at = some (r, w_list, w_found, w_at) → va_P D mm_cl (wd_X7 cI cL cS cH a v_list v_found v_at) H → va_D A (wd_X7 cI cL cS cH a v_list v_found v_at) → va_S A s.heap H locs → lv_has ls 6 [(0, .ref (a 0)), (1, .int x1), (2, .int x2), (3, .int x3), (4, .int x4), (5, .int x5)] → W p l e (mm_rr d) s m args below meth c H locs 0 0 (mm_Z below D A (wd_X7 cI cL cS cH a w_list w_found w_at) (some (.int r)) args s) (F0 m 33 ls []) := by
  obtain ⟨hx, hb, hml, hown, hts, hr, hlocks, hK, hSt⟩ := id C0
  intro x1 x2 x3 x4 x5 v_list v_found v_at H locs ls hf hP hD hS hl
  unfold fX7_howManyBent_33 at hf
  obtain ⟨y_12, ey_12⟩ : ∃ z : Int32, z = x5 + (1 : Int32) := ⟨_, rfl⟩
  have hf := mm_nms hf ey_12
  refine lv_iinc (v := y_12) (lv' := [(5, .int y_12), (0, .ref (a 0)), (1, .int x1), (2, .int x2), (3, .int x3), (4, .int x4)]) hx hb dX7_howManyBent_33 hl (k := 5) rfl (by rw [ey_12]; rfl) (by decide) rfl (fun ls hl => ?_)
  refine lv_goto (tgt := 12) hx hb dX7_howManyBent_36 (by decide) ?_
  exact hk_12 _ _ _ _ _ _ _ _ H locs ls hf hP hD hS (lv_sub hl [1, 2, 3, 4, 5, 0] rfl)

def fX7_howManyBent_12 (N : Nat)  : Nat → Int32 → Int32 → Int32 → Int32 → Int32 → List Int32 → List Int32 → List Int32 → Option (Int32 × List Int32 × List Int32 × List Int32)
  | 0 => fun _ _ _ _ _ _ _ _ => none
  | n + 1 => fun x1 x2 x3 x4 x5 v_list v_found v_at =>
    if x4 ≤ x5 then
    (some (x3, v_list, v_found, v_at))
    else (mm_bd2 (fX7_isBent N x1 x5 x2 v_list v_at) (fun (r_7 : Bool) (w_8 : List Int32) =>
    if r_7 = false then
    (fX7_howManyBent_33 N (fX7_howManyBent_12 N n) x1 x2 x3 x4 x5 v_list v_found w_8)
    else (mm_nm (x3 + (1 : Int32)) (fun (y_11 : Int32) =>
    fX7_howManyBent_33 N (fX7_howManyBent_12 N n) x1 x2 y_11 x4 x5 v_list v_found w_8))))

set_option maxHeartbeats 4000000 in
set_option maxRecDepth 100000 in
theorem tX7_howManyBent_12 {p : Program} {l : Launch} {e : Env} {s : State} {m : MethodId} {args : Array Value} {below : List Frame} {meth : Method} {c : Code} {D : va_G} {cI cL cS cH : ClassId} {A : Nat → Prop} {d : Nat} {a : Nat → Nat} (hd : 14 ≤ d) (C0 : mm_Cx p s m args meth c RX7 cX7_howManyBent 6 (some .int) D (mm_T cI cL cS cH) A) (hA : ∀ q, s.heap.size ≤ q → A q)  {r : Int32} {w_list : List Int32} {w_found : List Int32} {w_at : List Int32} (N : Nat)  : ∀ (n : Nat), ∀ (x1 : Int32) (x2 : Int32) (x3 : Int32) (x4 : Int32) (x5 : Int32) (v_list : List Int32) (v_found : List Int32) (v_at : List Int32) (H : Heap) (locs : List Loc) (ls : Array Slot), fX7_howManyBent_12 N n x1 x2 x3 x4 x5 v_list v_found v_at = some (r, w_list, w_found, w_at) → va_P D mm_cl (wd_X7 cI cL cS cH a v_list v_found v_at) H → va_D A (wd_X7 cI cL cS cH a v_list v_found v_at) → va_S A s.heap H locs → lv_has ls 6 [(0, .ref (a 0)), (1, .int x1), (2, .int x2), (3, .int x3), (4, .int x4), (5, .int x5)] → W p l e (mm_rr d) s m args below meth c H locs 0 0 (mm_Z below D A (wd_X7 cI cL cS cH a w_list w_found w_at) (some (.int r)) args s) (F0 m 12 ls []) := by
  obtain ⟨hx, hb, hml, hown, hts, hr, hlocks, hK, hSt⟩ := id C0
  intro n
  induction n with
  | zero =>
    intro x1 x2 x3 x4 x5 v_list v_found v_at H locs ls hf
    cases (show none = some _ from hf)
  | succ n ih =>
    intro x1 x2 x3 x4 x5 v_list v_found v_at H locs ls hf hP hD hS hl
    unfold fX7_howManyBent_12 at hf
    refine lv_iload hx hb dX7_howManyBent_12 (lv_at hl 5 rfl) ?_
    refine lv_iload hx hb dX7_howManyBent_14 (lv_at hl 4 rfl) ?_
    refine lv_icmp_ge (tgt := 39) hx hb dX7_howManyBent_16 (by decide) (fun c_6 => ?_) (fun c_6 => ?_)
    · have hf := mm_ip hf c_6
      refine lv_iload_n hx hb dX7_howManyBent_39 rfl (lv_at hl 3 rfl) ?_
      apply mm_sub4 hf
      exact mm_iret C0 hP hD hS dX7_howManyBent_40
    · have hf := mm_in hf c_6
      refine lv_aload_n hx hb dX7_howManyBent_19 rfl (lv_at hl 0 rfl) ?_
      refine lv_iload_n hx hb dX7_howManyBent_20 rfl (lv_at hl 1 rfl) ?_
      refine lv_iload hx hb dX7_howManyBent_21 (lv_at hl 5 rfl) ?_
      refine lv_iload_n hx hb dX7_howManyBent_23 rfl (lv_at hl 2 rfl) ?_
      obtain ⟨r_7, w_8, hc_9, hf⟩ := mm_bd2s hf
      refine mm_callVF (q0 := 0) (ci := 7) (rest := []) C0 lk_X7_54 (ctX7_isBent (a := a) (d := d - 1) (by omega) hc_9) (by omega) rfl hl.1 rfl (mm_cat rfl) dX7_howManyBent_24 hP hD hA hS rfl rfl (fun H locs hP hD hS => ?_)
      refine W.eq (g2 := F0 m 27 ls [.int (mm_b r_7)]) rfl ?_
      refine lv_if_eq (tgt := 33) hx hb dX7_howManyBent_27 (by decide) (fun c_10 => ?_) (fun c_10 => ?_)
      · have hf := mm_ip hf (mm_b0 c_10)
        exact tX7_howManyBent_33 hd C0 hA N ih _ _ _ _ _ _ _ _ H locs ls hf hP hD hS (lv_sub hl [0, 1, 2, 3, 4, 5] rfl)
      · have hf := mm_in hf (mm_b1 c_10)
        obtain ⟨y_11, ey_11⟩ : ∃ z : Int32, z = x3 + (1 : Int32) := ⟨_, rfl⟩
        have hf := mm_nms hf ey_11
        refine lv_iinc (v := y_11) (lv' := [(3, .int y_11), (0, .ref (a 0)), (1, .int x1), (2, .int x2), (4, .int x4), (5, .int x5)]) hx hb dX7_howManyBent_30 hl (k := 3) rfl (by rw [ey_11]; rfl) (by decide) rfl (fun ls hl => ?_)
        exact tX7_howManyBent_33 hd C0 hA N ih _ _ _ _ _ _ _ _ H locs ls hf hP hD hS (lv_sub hl [1, 2, 3, 0, 4, 5] rfl)

def fX7_howManyBent (N : Nat) (x1 : Int32) (x2 : Int32) (v_list : List Int32) (v_found : List Int32) (v_at : List Int32) : Option (Int32 × List Int32 × List Int32 × List Int32) :=
    mm_bd4 (fX7_howMany N x1 v_list v_found v_at) (fun (r_1 : Int32) (w_2 : List Int32) (w_3 : List Int32) (w_4 : List Int32) =>
    fX7_howManyBent_12 N N x1 x2 (0 : Int32) r_1 (0 : Int32) w_2 w_3 w_4)

set_option maxHeartbeats 4000000 in
set_option maxRecDepth 100000 in
theorem ctX7_howManyBent {l : Launch} {D : va_G} {cI cL cS cH : ClassId} {a : Nat → Nat} {x1 : Int32} {x2 : Int32} {v_list : List Int32} {v_found : List Int32} {v_at : List Int32} {r : Int32} {w_list : List Int32} {w_found : List Int32} {w_at : List Int32} {N d : Nat} (hd : 14 ≤ d) (hf : fX7_howManyBent N x1 x2 v_list v_found v_at = some (r, w_list, w_found, w_at)) : mm_Ct l yX7_howManyBent cX7_howManyBent 6 (some .int) d D (mm_T cI cL cS cH) [.ref (a 0), .int x1, .int x2] (wd_X7 cI cL cS cH a v_list v_found v_at) (wd_X7 cI cL cS cH a w_list w_found w_at) (some (.int r)) := by
  refine mm_of (by decide) (Nat.le_of_ble_eq_true rfl) ?_
  intro p e s m args below meth c A H locs ls C0 hP hD hA hS hl
  have C0 : mm_Cx p s m args meth c RX7 cX7_howManyBent 6 (some .int) D (mm_T cI cL cS cH) A := C0
  obtain ⟨hx, hb, hml, hown, hts, hr, hlocks, hK, hSt⟩ := id C0
  have hl : lv_has ls 6 [(0, .ref (a 0)), (1, .int x1), (2, .int x2)] := hl
  unfold fX7_howManyBent at hf
  refine lv_iconst (v := 0) hx hb dX7_howManyBent_0 (by decide) ?_
  refine lv_istore_n (lv' := [(3, .int (0 : Int32)), (0, .ref (a 0)), (1, .int x1), (2, .int x2)]) hx hb dX7_howManyBent_1 rfl hl (by decide) rfl (fun ls hl => ?_)
  refine lv_aload_n hx hb dX7_howManyBent_2 rfl (lv_at hl 1 rfl) ?_
  refine lv_iload_n hx hb dX7_howManyBent_3 rfl (lv_at hl 2 rfl) ?_
  obtain ⟨r_1, w_2, w_3, w_4, hc_5, hf⟩ := mm_bd4s hf
  refine mm_callVF (q0 := 0) (ci := 7) (rest := []) C0 lk_X7_47 (ctX7_howMany (a := a) (d := d - 1) (by omega) hc_5) (by omega) rfl hl.1 rfl (mm_cat rfl) dX7_howManyBent_4 hP hD hA hS rfl rfl (fun H locs hP hD hS => ?_)
  refine W.eq (g2 := F0 m 7 ls [.int r_1]) rfl ?_
  refine lv_istore (lv' := [(4, .int r_1), (3, .int (0 : Int32)), (0, .ref (a 0)), (1, .int x1), (2, .int x2)]) hx hb dX7_howManyBent_7 hl (by decide) rfl (fun ls hl => ?_)
  refine lv_iconst (v := 0) hx hb dX7_howManyBent_9 (by decide) ?_
  refine lv_istore (lv' := [(5, .int (0 : Int32)), (4, .int r_1), (3, .int (0 : Int32)), (0, .ref (a 0)), (1, .int x1), (2, .int x2)]) hx hb dX7_howManyBent_10 hl (by decide) rfl (fun ls hl => ?_)
  exact tX7_howManyBent_12 hd C0 hA N  N _ _ _ _ _ _ _ _ H locs ls hf hP hD hS (lv_sub hl [3, 4, 5, 2, 1, 0] rfl)

theorem dX7_firstBent_0 : decode cX7_firstBent 0 = .ok (.aload_n 0, 1) := by decide +kernel
theorem dX7_firstBent_1 : decode cX7_firstBent 1 = .ok (.iload_n 1, 1) := by decide +kernel
theorem dX7_firstBent_2 : decode cX7_firstBent 2 = .ok (.invokevirtual 47, 3) := by decide +kernel
theorem dX7_firstBent_5 : decode cX7_firstBent 5 = .ok (.istore_n 3, 1) := by decide +kernel
theorem dX7_firstBent_6 : decode cX7_firstBent 6 = .ok (.iconst 0, 1) := by decide +kernel
theorem dX7_firstBent_7 : decode cX7_firstBent 7 = .ok (.istore 4, 2) := by decide +kernel
theorem dX7_firstBent_9 : decode cX7_firstBent 9 = .ok (.iload 4, 2) := by decide +kernel
theorem dX7_firstBent_11 : decode cX7_firstBent 11 = .ok (.iload_n 3, 1) := by decide +kernel
theorem dX7_firstBent_12 : decode cX7_firstBent 12 = .ok (.if_icmp .ge 34, 3) := by decide +kernel
theorem dX7_firstBent_15 : decode cX7_firstBent 15 = .ok (.aload_n 0, 1) := by decide +kernel
theorem dX7_firstBent_16 : decode cX7_firstBent 16 = .ok (.iload_n 1, 1) := by decide +kernel
theorem dX7_firstBent_17 : decode cX7_firstBent 17 = .ok (.iload 4, 2) := by decide +kernel
theorem dX7_firstBent_19 : decode cX7_firstBent 19 = .ok (.iload_n 2, 1) := by decide +kernel
theorem dX7_firstBent_20 : decode cX7_firstBent 20 = .ok (.invokevirtual 54, 3) := by decide +kernel
theorem dX7_firstBent_23 : decode cX7_firstBent 23 = .ok (.ifCond .eq 17, 3) := by decide +kernel
theorem dX7_firstBent_26 : decode cX7_firstBent 26 = .ok (.aload_n 0, 1) := by decide +kernel
theorem dX7_firstBent_27 : decode cX7_firstBent 27 = .ok (.getfield 11, 3) := by decide +kernel
theorem dX7_firstBent_30 : decode cX7_firstBent 30 = .ok (.getstatic 51, 3) := by decide +kernel
theorem dX7_firstBent_33 : decode cX7_firstBent 33 = .ok (.iload_n 1, 1) := by decide +kernel
theorem dX7_firstBent_34 : decode cX7_firstBent 34 = .ok (.iaload, 1) := by decide +kernel
theorem dX7_firstBent_35 : decode cX7_firstBent 35 = .ok (.iload 4, 2) := by decide +kernel
theorem dX7_firstBent_37 : decode cX7_firstBent 37 = .ok (.iadd, 1) := by decide +kernel
theorem dX7_firstBent_38 : decode cX7_firstBent 38 = .ok (.iaload, 1) := by decide +kernel
theorem dX7_firstBent_39 : decode cX7_firstBent 39 = .ok (.ireturn, 1) := by decide +kernel
theorem dX7_firstBent_40 : decode cX7_firstBent 40 = .ok (.iinc 4 1, 3) := by decide +kernel
theorem dX7_firstBent_43 : decode cX7_firstBent 43 = .ok (.goto (-34), 3) := by decide +kernel
theorem dX7_firstBent_46 : decode cX7_firstBent 46 = .ok (.iconst (-1), 1) := by decide +kernel
theorem dX7_firstBent_47 : decode cX7_firstBent 47 = .ok (.ireturn, 1) := by decide +kernel
def fX7_firstBent_9 (N : Nat)  : Nat → Int32 → Int32 → Int32 → Int32 → List Int32 → List Int32 → List Int32 → Option (Int32 × List Int32 × List Int32 × List Int32)
  | 0 => fun _ _ _ _ _ _ _ => none
  | n + 1 => fun x1 x2 x3 x4 v_list v_found v_at =>
    if x3 ≤ x4 then
    (some ((-1 : Int32), v_list, v_found, v_at))
    else (mm_bd2 (fX7_isBent N x1 x4 x2 v_list v_at) (fun (r_7 : Bool) (w_8 : List Int32) =>
    if r_7 = false then
    (mm_nm (x4 + (1 : Int32)) (fun (y_11 : Int32) =>
    fX7_firstBent_9 N n x1 x2 x3 y_11 v_list v_found w_8))
    else (mm_ck (mm_inb x1 mm_START.length) (mm_ck (mm_inb ((mm_ig mm_START x1) + x4) v_list.length) (some ((mm_ig v_list ((mm_ig mm_START x1) + x4)), v_list, v_found, w_8))))))

set_option maxHeartbeats 4000000 in
set_option maxRecDepth 100000 in
theorem tX7_firstBent_9 {p : Program} {l : Launch} {e : Env} {s : State} {m : MethodId} {args : Array Value} {below : List Frame} {meth : Method} {c : Code} {D : va_G} {cI cL cS cH : ClassId} {A : Nat → Prop} {d : Nat} {a : Nat → Nat} (hd : 14 ≤ d) (C0 : mm_Cx p s m args meth c RX7 cX7_firstBent 5 (some .int) D (mm_T cI cL cS cH) A) (hA : ∀ q, s.heap.size ≤ q → A q)  {r : Int32} {w_list : List Int32} {w_found : List Int32} {w_at : List Int32} (N : Nat)  : ∀ (n : Nat), ∀ (x1 : Int32) (x2 : Int32) (x3 : Int32) (x4 : Int32) (v_list : List Int32) (v_found : List Int32) (v_at : List Int32) (H : Heap) (locs : List Loc) (ls : Array Slot), fX7_firstBent_9 N n x1 x2 x3 x4 v_list v_found v_at = some (r, w_list, w_found, w_at) → va_P D mm_cl (wd_X7 cI cL cS cH a v_list v_found v_at) H → va_D A (wd_X7 cI cL cS cH a v_list v_found v_at) → va_S A s.heap H locs → lv_has ls 5 [(0, .ref (a 0)), (1, .int x1), (2, .int x2), (3, .int x3), (4, .int x4)] → W p l e (mm_rr d) s m args below meth c H locs 0 0 (mm_Z below D A (wd_X7 cI cL cS cH a w_list w_found w_at) (some (.int r)) args s) (F0 m 9 ls []) := by
  obtain ⟨hx, hb, hml, hown, hts, hr, hlocks, hK, hSt⟩ := id C0
  obtain ⟨⟨t_START, hZ_START, hT_START⟩, ⟨t_ABOVE, hZ_ABOVE, hT_ABOVE⟩, ⟨t_OWN, hZ_OWN, hT_OWN⟩, hNest⟩ := hSt
  intro n
  induction n with
  | zero =>
    intro x1 x2 x3 x4 v_list v_found v_at H locs ls hf
    cases (show none = some _ from hf)
  | succ n ih =>
    intro x1 x2 x3 x4 v_list v_found v_at H locs ls hf hP hD hS hl
    unfold fX7_firstBent_9 at hf
    refine lv_iload hx hb dX7_firstBent_9 (lv_at hl 4 rfl) ?_
    refine lv_iload_n hx hb dX7_firstBent_11 rfl (lv_at hl 3 rfl) ?_
    refine lv_icmp_ge (tgt := 46) hx hb dX7_firstBent_12 (by decide) (fun c_6 => ?_) (fun c_6 => ?_)
    · have hf := mm_ip hf c_6
      refine lv_iconst (v := -1) hx hb dX7_firstBent_46 (by decide) ?_
      apply mm_sub4 hf
      exact mm_iret C0 hP hD hS dX7_firstBent_47
    · have hf := mm_in hf c_6
      refine lv_aload_n hx hb dX7_firstBent_15 rfl (lv_at hl 0 rfl) ?_
      refine lv_iload_n hx hb dX7_firstBent_16 rfl (lv_at hl 1 rfl) ?_
      refine lv_iload hx hb dX7_firstBent_17 (lv_at hl 4 rfl) ?_
      refine lv_iload_n hx hb dX7_firstBent_19 rfl (lv_at hl 2 rfl) ?_
      obtain ⟨r_7, w_8, hc_9, hf⟩ := mm_bd2s hf
      refine mm_callVF (q0 := 0) (ci := 7) (rest := []) C0 lk_X7_54 (ctX7_isBent (a := a) (d := d - 1) (by omega) hc_9) (by omega) rfl hl.1 rfl (mm_cat rfl) dX7_firstBent_20 hP hD hA hS rfl rfl (fun H locs hP hD hS => ?_)
      refine W.eq (g2 := F0 m 23 ls [.int (mm_b r_7)]) rfl ?_
      refine lv_if_eq (tgt := 40) hx hb dX7_firstBent_23 (by decide) (fun c_10 => ?_) (fun c_10 => ?_)
      · have hf := mm_ip hf (mm_b0 c_10)
        obtain ⟨y_11, ey_11⟩ : ∃ z : Int32, z = x4 + (1 : Int32) := ⟨_, rfl⟩
        have hf := mm_nms hf ey_11
        refine lv_iinc (v := y_11) (lv' := [(4, .int y_11), (0, .ref (a 0)), (1, .int x1), (2, .int x2), (3, .int x3)]) hx hb dX7_firstBent_40 hl (k := 4) rfl (by rw [ey_11]; rfl) (by decide) rfl (fun ls hl => ?_)
        refine lv_goto (tgt := 9) hx hb dX7_firstBent_43 (by decide) ?_
        exact ih _ _ _ _ _ _ _ H locs ls hf hP hD hS (lv_sub hl [1, 2, 3, 4, 0] rfl)
      · have hf := mm_in hf (mm_b1 c_10)
        refine lv_aload_n hx hb dX7_firstBent_26 rfl (lv_at hl 0 rfl) ?_
        refine mm_get C0 hP iw_X7 0 rfl rfl 0 (by decide) fl_X7_11 rfl dX7_firstBent_27 ?_
        refine va_gets hx hb hZ_START hS hown (hts _ fl_X7_51) (fun _ h9 => h9) dX7_firstBent_30 ?_
        refine lv_iload_n hx hb dX7_firstBent_33 rfl (lv_at hl 1 rfl) ?_
        obtain ⟨h_12, hf⟩ := mm_cks hf
        refine va_ti (v := .int (mm_ig mm_START x1)) hx hb hT_START hS (mm_inbs h_12).1 rfl dX7_firstBent_34 ?_
        refine lv_iload hx hb dX7_firstBent_35 (lv_at hl 4 rfl) ?_
        refine lv_iadd hx hb dX7_firstBent_37 ?_
        obtain ⟨h_13, hf⟩ := mm_cks hf
        refine mm_iald C0 hP 1 rfl h_13 dX7_firstBent_38 ?_
        apply mm_sub4 hf
        exact mm_iret C0 hP hD hS dX7_firstBent_39

def fX7_firstBent (N : Nat) (x1 : Int32) (x2 : Int32) (v_list : List Int32) (v_found : List Int32) (v_at : List Int32) : Option (Int32 × List Int32 × List Int32 × List Int32) :=
    mm_bd4 (fX7_howMany N x1 v_list v_found v_at) (fun (r_1 : Int32) (w_2 : List Int32) (w_3 : List Int32) (w_4 : List Int32) =>
    fX7_firstBent_9 N N x1 x2 r_1 (0 : Int32) w_2 w_3 w_4)

set_option maxHeartbeats 4000000 in
set_option maxRecDepth 100000 in
theorem ctX7_firstBent {l : Launch} {D : va_G} {cI cL cS cH : ClassId} {a : Nat → Nat} {x1 : Int32} {x2 : Int32} {v_list : List Int32} {v_found : List Int32} {v_at : List Int32} {r : Int32} {w_list : List Int32} {w_found : List Int32} {w_at : List Int32} {N d : Nat} (hd : 14 ≤ d) (hf : fX7_firstBent N x1 x2 v_list v_found v_at = some (r, w_list, w_found, w_at)) : mm_Ct l yX7_firstBent cX7_firstBent 5 (some .int) d D (mm_T cI cL cS cH) [.ref (a 0), .int x1, .int x2] (wd_X7 cI cL cS cH a v_list v_found v_at) (wd_X7 cI cL cS cH a w_list w_found w_at) (some (.int r)) := by
  refine mm_of (by decide) (Nat.le_of_ble_eq_true rfl) ?_
  intro p e s m args below meth c A H locs ls C0 hP hD hA hS hl
  have C0 : mm_Cx p s m args meth c RX7 cX7_firstBent 5 (some .int) D (mm_T cI cL cS cH) A := C0
  obtain ⟨hx, hb, hml, hown, hts, hr, hlocks, hK, hSt⟩ := id C0
  obtain ⟨⟨t_START, hZ_START, hT_START⟩, ⟨t_ABOVE, hZ_ABOVE, hT_ABOVE⟩, ⟨t_OWN, hZ_OWN, hT_OWN⟩, hNest⟩ := hSt
  have hl : lv_has ls 5 [(0, .ref (a 0)), (1, .int x1), (2, .int x2)] := hl
  unfold fX7_firstBent at hf
  refine lv_aload_n hx hb dX7_firstBent_0 rfl (lv_at hl 0 rfl) ?_
  refine lv_iload_n hx hb dX7_firstBent_1 rfl (lv_at hl 1 rfl) ?_
  obtain ⟨r_1, w_2, w_3, w_4, hc_5, hf⟩ := mm_bd4s hf
  refine mm_callVF (q0 := 0) (ci := 7) (rest := []) C0 lk_X7_47 (ctX7_howMany (a := a) (d := d - 1) (by omega) hc_5) (by omega) rfl hl.1 rfl (mm_cat rfl) dX7_firstBent_2 hP hD hA hS rfl rfl (fun H locs hP hD hS => ?_)
  refine W.eq (g2 := F0 m 5 ls [.int r_1]) rfl ?_
  refine lv_istore_n (lv' := [(3, .int r_1), (0, .ref (a 0)), (1, .int x1), (2, .int x2)]) hx hb dX7_firstBent_5 rfl hl (by decide) rfl (fun ls hl => ?_)
  refine lv_iconst (v := 0) hx hb dX7_firstBent_6 (by decide) ?_
  refine lv_istore (lv' := [(4, .int (0 : Int32)), (3, .int r_1), (0, .ref (a 0)), (1, .int x1), (2, .int x2)]) hx hb dX7_firstBent_7 hl (by decide) rfl (fun ls hl => ?_)
  exact tX7_firstBent_9 hd C0 hA N  N _ _ _ _ _ _ _ H locs ls hf hP hD hS (lv_sub hl [2, 3, 4, 1, 0] rfl)

theorem dX7_howManyTopped_0 : decode cX7_howManyTopped 0 = .ok (.iconst 0, 1) := by decide +kernel
theorem dX7_howManyTopped_1 : decode cX7_howManyTopped 1 = .ok (.istore_n 3, 1) := by decide +kernel
theorem dX7_howManyTopped_2 : decode cX7_howManyTopped 2 = .ok (.aload_n 0, 1) := by decide +kernel
theorem dX7_howManyTopped_3 : decode cX7_howManyTopped 3 = .ok (.iload_n 1, 1) := by decide +kernel
theorem dX7_howManyTopped_4 : decode cX7_howManyTopped 4 = .ok (.invokevirtual 47, 3) := by decide +kernel
theorem dX7_howManyTopped_7 : decode cX7_howManyTopped 7 = .ok (.istore 4, 2) := by decide +kernel
theorem dX7_howManyTopped_9 : decode cX7_howManyTopped 9 = .ok (.iconst 0, 1) := by decide +kernel
theorem dX7_howManyTopped_10 : decode cX7_howManyTopped 10 = .ok (.istore 5, 2) := by decide +kernel
theorem dX7_howManyTopped_12 : decode cX7_howManyTopped 12 = .ok (.iload 5, 2) := by decide +kernel
theorem dX7_howManyTopped_14 : decode cX7_howManyTopped 14 = .ok (.iload 4, 2) := by decide +kernel
theorem dX7_howManyTopped_16 : decode cX7_howManyTopped 16 = .ok (.if_icmp .ge 34, 3) := by decide +kernel
theorem dX7_howManyTopped_19 : decode cX7_howManyTopped 19 = .ok (.aload_n 0, 1) := by decide +kernel
theorem dX7_howManyTopped_20 : decode cX7_howManyTopped 20 = .ok (.getfield 11, 3) := by decide +kernel
theorem dX7_howManyTopped_23 : decode cX7_howManyTopped 23 = .ok (.getstatic 51, 3) := by decide +kernel
theorem dX7_howManyTopped_26 : decode cX7_howManyTopped 26 = .ok (.iload_n 1, 1) := by decide +kernel
theorem dX7_howManyTopped_27 : decode cX7_howManyTopped 27 = .ok (.iaload, 1) := by decide +kernel
theorem dX7_howManyTopped_28 : decode cX7_howManyTopped 28 = .ok (.iload 5, 2) := by decide +kernel
theorem dX7_howManyTopped_30 : decode cX7_howManyTopped 30 = .ok (.iadd, 1) := by decide +kernel
theorem dX7_howManyTopped_31 : decode cX7_howManyTopped 31 = .ok (.iaload, 1) := by decide +kernel
theorem dX7_howManyTopped_32 : decode cX7_howManyTopped 32 = .ok (.bipush 10, 2) := by decide +kernel
theorem dX7_howManyTopped_34 : decode cX7_howManyTopped 34 = .ok (.irem, 1) := by decide +kernel
theorem dX7_howManyTopped_35 : decode cX7_howManyTopped 35 = .ok (.iload_n 2, 1) := by decide +kernel
theorem dX7_howManyTopped_36 : decode cX7_howManyTopped 36 = .ok (.iconst 1, 1) := by decide +kernel
theorem dX7_howManyTopped_37 : decode cX7_howManyTopped 37 = .ok (.iadd, 1) := by decide +kernel
theorem dX7_howManyTopped_38 : decode cX7_howManyTopped 38 = .ok (.if_icmp .ne 6, 3) := by decide +kernel
theorem dX7_howManyTopped_41 : decode cX7_howManyTopped 41 = .ok (.iinc 3 1, 3) := by decide +kernel
theorem dX7_howManyTopped_44 : decode cX7_howManyTopped 44 = .ok (.iinc 5 1, 3) := by decide +kernel
theorem dX7_howManyTopped_47 : decode cX7_howManyTopped 47 = .ok (.goto (-35), 3) := by decide +kernel
theorem dX7_howManyTopped_50 : decode cX7_howManyTopped 50 = .ok (.iload_n 3, 1) := by decide +kernel
theorem dX7_howManyTopped_51 : decode cX7_howManyTopped 51 = .ok (.ireturn, 1) := by decide +kernel
def fX7_howManyTopped_44 (N : Nat) (k_12 : Int32 → Int32 → Int32 → Int32 → Int32 → List Int32 → List Int32 → List Int32 → Option (Int32 × List Int32 × List Int32 × List Int32)) (x1 : Int32) (x2 : Int32) (x3 : Int32) (x4 : Int32) (x5 : Int32) (v_list : List Int32) (v_found : List Int32) (v_at : List Int32) : Option (Int32 × List Int32 × List Int32 × List Int32) :=
    mm_nm (x5 + (1 : Int32)) (fun (y_12 : Int32) =>
    k_12 x1 x2 x3 x4 y_12 v_list v_found v_at)

set_option maxHeartbeats 4000000 in
set_option maxRecDepth 100000 in
theorem tX7_howManyTopped_44 {p : Program} {l : Launch} {e : Env} {s : State} {m : MethodId} {args : Array Value} {below : List Frame} {meth : Method} {c : Code} {D : va_G} {cI cL cS cH : ClassId} {A : Nat → Prop} {d : Nat} {a : Nat → Nat} (hd : 14 ≤ d) (C0 : mm_Cx p s m args meth c RX7 cX7_howManyTopped 6 (some .int) D (mm_T cI cL cS cH) A) (hA : ∀ q, s.heap.size ≤ q → A q)  {r : Int32} {w_list : List Int32} {w_found : List Int32} {w_at : List Int32} (N : Nat) {k_12 : Int32 → Int32 → Int32 → Int32 → Int32 → List Int32 → List Int32 → List Int32 → Option (Int32 × List Int32 × List Int32 × List Int32)} (hk_12 : ∀ (x1 : Int32) (x2 : Int32) (x3 : Int32) (x4 : Int32) (x5 : Int32) (v_list : List Int32) (v_found : List Int32) (v_at : List Int32) (H : Heap) (locs : List Loc) (ls : Array Slot), k_12 x1 x2 x3 x4 x5 v_list v_found v_at = some (r, w_list, w_found, w_at) → va_P D mm_cl (wd_X7 cI cL cS cH a v_list v_found v_at) H → va_D A (wd_X7 cI cL cS cH a v_list v_found v_at) → va_S A s.heap H locs → lv_has ls 6 [(0, .ref (a 0)), (1, .int x1), (2, .int x2), (3, .int x3), (4, .int x4), (5, .int x5)] → W p l e (mm_rr d) s m args below meth c H locs 0 0 (mm_Z below D A (wd_X7 cI cL cS cH a w_list w_found w_at) (some (.int r)) args s) (F0 m 12 ls [])) : ∀ (x1 : Int32) (x2 : Int32) (x3 : Int32) (x4 : Int32) (x5 : Int32) (v_list : List Int32) (v_found : List Int32) (v_at : List Int32) (H : Heap) (locs : List Loc) (ls : Array Slot), fX7_howManyTopped_44 N k_12 x1 x2 x3 x4 x5 v_list v_found v_at = some (r, w_list, w_found, w_at) → va_P D mm_cl (wd_X7 cI cL cS cH a v_list v_found v_at) H → va_D A (wd_X7 cI cL cS cH a v_list v_found v_at) → va_S A s.heap H locs → lv_has ls 6 [(0, .ref (a 0)), (1, .int x1), (2, .int x2), (3, .int x3), (4, .int x4), (5, .int x5)] → W p l e (mm_rr d) s m args below meth c H locs 0 0 (mm_Z below D A (wd_X7 cI cL cS cH a w_list w_found w_at) (some (.int r)) args s) (F0 m 44 ls []) := by
  obtain ⟨hx, hb, hml, hown, hts, hr, hlocks, hK, hSt⟩ := id C0
  obtain ⟨⟨t_START, hZ_START, hT_START⟩, ⟨t_ABOVE, hZ_ABOVE, hT_ABOVE⟩, ⟨t_OWN, hZ_OWN, hT_OWN⟩, hNest⟩ := hSt
  intro x1 x2 x3 x4 x5 v_list v_found v_at H locs ls hf hP hD hS hl
  unfold fX7_howManyTopped_44 at hf
  obtain ⟨y_12, ey_12⟩ : ∃ z : Int32, z = x5 + (1 : Int32) := ⟨_, rfl⟩
  have hf := mm_nms hf ey_12
  refine lv_iinc (v := y_12) (lv' := [(5, .int y_12), (0, .ref (a 0)), (1, .int x1), (2, .int x2), (3, .int x3), (4, .int x4)]) hx hb dX7_howManyTopped_44 hl (k := 5) rfl (by rw [ey_12]; rfl) (by decide) rfl (fun ls hl => ?_)
  refine lv_goto (tgt := 12) hx hb dX7_howManyTopped_47 (by decide) ?_
  exact hk_12 _ _ _ _ _ _ _ _ H locs ls hf hP hD hS (lv_sub hl [1, 2, 3, 4, 5, 0] rfl)

def fX7_howManyTopped_12 (N : Nat)  : Nat → Int32 → Int32 → Int32 → Int32 → Int32 → List Int32 → List Int32 → List Int32 → Option (Int32 × List Int32 × List Int32 × List Int32)
  | 0 => fun _ _ _ _ _ _ _ _ => none
  | n + 1 => fun x1 x2 x3 x4 x5 v_list v_found v_at =>
    if x4 ≤ x5 then
    (some (x3, v_list, v_found, v_at))
    else (mm_ck (mm_inb x1 mm_START.length) (mm_ck (mm_inb ((mm_ig mm_START x1) + x5) v_list.length) (mm_ck (mm_nz (10 : Int32)) (if (mm_rem (mm_ig v_list ((mm_ig mm_START x1) + x5)) (10 : Int32)) = (x2 + (1 : Int32)) then
    (mm_nm (x3 + (1 : Int32)) (fun (y_11 : Int32) =>
    fX7_howManyTopped_44 N (fX7_howManyTopped_12 N n) x1 x2 y_11 x4 x5 v_list v_found v_at))
    else (fX7_howManyTopped_44 N (fX7_howManyTopped_12 N n) x1 x2 x3 x4 x5 v_list v_found v_at)))))

set_option maxHeartbeats 4000000 in
set_option maxRecDepth 100000 in
theorem tX7_howManyTopped_12 {p : Program} {l : Launch} {e : Env} {s : State} {m : MethodId} {args : Array Value} {below : List Frame} {meth : Method} {c : Code} {D : va_G} {cI cL cS cH : ClassId} {A : Nat → Prop} {d : Nat} {a : Nat → Nat} (hd : 14 ≤ d) (C0 : mm_Cx p s m args meth c RX7 cX7_howManyTopped 6 (some .int) D (mm_T cI cL cS cH) A) (hA : ∀ q, s.heap.size ≤ q → A q)  {r : Int32} {w_list : List Int32} {w_found : List Int32} {w_at : List Int32} (N : Nat)  : ∀ (n : Nat), ∀ (x1 : Int32) (x2 : Int32) (x3 : Int32) (x4 : Int32) (x5 : Int32) (v_list : List Int32) (v_found : List Int32) (v_at : List Int32) (H : Heap) (locs : List Loc) (ls : Array Slot), fX7_howManyTopped_12 N n x1 x2 x3 x4 x5 v_list v_found v_at = some (r, w_list, w_found, w_at) → va_P D mm_cl (wd_X7 cI cL cS cH a v_list v_found v_at) H → va_D A (wd_X7 cI cL cS cH a v_list v_found v_at) → va_S A s.heap H locs → lv_has ls 6 [(0, .ref (a 0)), (1, .int x1), (2, .int x2), (3, .int x3), (4, .int x4), (5, .int x5)] → W p l e (mm_rr d) s m args below meth c H locs 0 0 (mm_Z below D A (wd_X7 cI cL cS cH a w_list w_found w_at) (some (.int r)) args s) (F0 m 12 ls []) := by
  obtain ⟨hx, hb, hml, hown, hts, hr, hlocks, hK, hSt⟩ := id C0
  obtain ⟨⟨t_START, hZ_START, hT_START⟩, ⟨t_ABOVE, hZ_ABOVE, hT_ABOVE⟩, ⟨t_OWN, hZ_OWN, hT_OWN⟩, hNest⟩ := hSt
  intro n
  induction n with
  | zero =>
    intro x1 x2 x3 x4 x5 v_list v_found v_at H locs ls hf
    cases (show none = some _ from hf)
  | succ n ih =>
    intro x1 x2 x3 x4 x5 v_list v_found v_at H locs ls hf hP hD hS hl
    unfold fX7_howManyTopped_12 at hf
    refine lv_iload hx hb dX7_howManyTopped_12 (lv_at hl 5 rfl) ?_
    refine lv_iload hx hb dX7_howManyTopped_14 (lv_at hl 4 rfl) ?_
    refine lv_icmp_ge (tgt := 50) hx hb dX7_howManyTopped_16 (by decide) (fun c_6 => ?_) (fun c_6 => ?_)
    · have hf := mm_ip hf c_6
      refine lv_iload_n hx hb dX7_howManyTopped_50 rfl (lv_at hl 3 rfl) ?_
      apply mm_sub4 hf
      exact mm_iret C0 hP hD hS dX7_howManyTopped_51
    · have hf := mm_in hf c_6
      refine lv_aload_n hx hb dX7_howManyTopped_19 rfl (lv_at hl 0 rfl) ?_
      refine mm_get C0 hP iw_X7 0 rfl rfl 0 (by decide) fl_X7_11 rfl dX7_howManyTopped_20 ?_
      refine va_gets hx hb hZ_START hS hown (hts _ fl_X7_51) (fun _ h9 => h9) dX7_howManyTopped_23 ?_
      refine lv_iload_n hx hb dX7_howManyTopped_26 rfl (lv_at hl 1 rfl) ?_
      obtain ⟨h_7, hf⟩ := mm_cks hf
      refine va_ti (v := .int (mm_ig mm_START x1)) hx hb hT_START hS (mm_inbs h_7).1 rfl dX7_howManyTopped_27 ?_
      refine lv_iload hx hb dX7_howManyTopped_28 (lv_at hl 5 rfl) ?_
      refine lv_iadd hx hb dX7_howManyTopped_30 ?_
      obtain ⟨h_8, hf⟩ := mm_cks hf
      refine mm_iald C0 hP 1 rfl h_8 dX7_howManyTopped_31 ?_
      refine lv_bipush (v := 10) hx hb dX7_howManyTopped_32 (by decide) ?_
      obtain ⟨h_9, hf⟩ := mm_cks hf
      refine lv_irem hx hb dX7_howManyTopped_34 (mm_nzs h_9) ?_
      refine lv_iload_n hx hb dX7_howManyTopped_35 rfl (lv_at hl 2 rfl) ?_
      refine lv_iconst (v := 1) hx hb dX7_howManyTopped_36 (by decide) ?_
      refine lv_iadd hx hb dX7_howManyTopped_37 ?_
      refine lv_icmp_ne (tgt := 44) hx hb dX7_howManyTopped_38 (by decide) (fun c_10 => ?_) (fun c_10 => ?_)
      · have hf := mm_in hf c_10
        exact tX7_howManyTopped_44 hd C0 hA N ih _ _ _ _ _ _ _ _ H locs ls hf hP hD hS (lv_sub hl [0, 1, 2, 3, 4, 5] rfl)
      · have hf := mm_ip hf c_10
        obtain ⟨y_11, ey_11⟩ : ∃ z : Int32, z = x3 + (1 : Int32) := ⟨_, rfl⟩
        have hf := mm_nms hf ey_11
        refine lv_iinc (v := y_11) (lv' := [(3, .int y_11), (0, .ref (a 0)), (1, .int x1), (2, .int x2), (4, .int x4), (5, .int x5)]) hx hb dX7_howManyTopped_41 hl (k := 3) rfl (by rw [ey_11]; rfl) (by decide) rfl (fun ls hl => ?_)
        exact tX7_howManyTopped_44 hd C0 hA N ih _ _ _ _ _ _ _ _ H locs ls hf hP hD hS (lv_sub hl [1, 2, 3, 0, 4, 5] rfl)

def fX7_howManyTopped (N : Nat) (x1 : Int32) (x2 : Int32) (v_list : List Int32) (v_found : List Int32) (v_at : List Int32) : Option (Int32 × List Int32 × List Int32 × List Int32) :=
    mm_bd4 (fX7_howMany N x1 v_list v_found v_at) (fun (r_1 : Int32) (w_2 : List Int32) (w_3 : List Int32) (w_4 : List Int32) =>
    fX7_howManyTopped_12 N N x1 x2 (0 : Int32) r_1 (0 : Int32) w_2 w_3 w_4)

set_option maxHeartbeats 4000000 in
set_option maxRecDepth 100000 in
theorem ctX7_howManyTopped {l : Launch} {D : va_G} {cI cL cS cH : ClassId} {a : Nat → Nat} {x1 : Int32} {x2 : Int32} {v_list : List Int32} {v_found : List Int32} {v_at : List Int32} {r : Int32} {w_list : List Int32} {w_found : List Int32} {w_at : List Int32} {N d : Nat} (hd : 14 ≤ d) (hf : fX7_howManyTopped N x1 x2 v_list v_found v_at = some (r, w_list, w_found, w_at)) : mm_Ct l yX7_howManyTopped cX7_howManyTopped 6 (some .int) d D (mm_T cI cL cS cH) [.ref (a 0), .int x1, .int x2] (wd_X7 cI cL cS cH a v_list v_found v_at) (wd_X7 cI cL cS cH a w_list w_found w_at) (some (.int r)) := by
  refine mm_of (by decide) (Nat.le_of_ble_eq_true rfl) ?_
  intro p e s m args below meth c A H locs ls C0 hP hD hA hS hl
  have C0 : mm_Cx p s m args meth c RX7 cX7_howManyTopped 6 (some .int) D (mm_T cI cL cS cH) A := C0
  obtain ⟨hx, hb, hml, hown, hts, hr, hlocks, hK, hSt⟩ := id C0
  obtain ⟨⟨t_START, hZ_START, hT_START⟩, ⟨t_ABOVE, hZ_ABOVE, hT_ABOVE⟩, ⟨t_OWN, hZ_OWN, hT_OWN⟩, hNest⟩ := hSt
  have hl : lv_has ls 6 [(0, .ref (a 0)), (1, .int x1), (2, .int x2)] := hl
  unfold fX7_howManyTopped at hf
  refine lv_iconst (v := 0) hx hb dX7_howManyTopped_0 (by decide) ?_
  refine lv_istore_n (lv' := [(3, .int (0 : Int32)), (0, .ref (a 0)), (1, .int x1), (2, .int x2)]) hx hb dX7_howManyTopped_1 rfl hl (by decide) rfl (fun ls hl => ?_)
  refine lv_aload_n hx hb dX7_howManyTopped_2 rfl (lv_at hl 1 rfl) ?_
  refine lv_iload_n hx hb dX7_howManyTopped_3 rfl (lv_at hl 2 rfl) ?_
  obtain ⟨r_1, w_2, w_3, w_4, hc_5, hf⟩ := mm_bd4s hf
  refine mm_callVF (q0 := 0) (ci := 7) (rest := []) C0 lk_X7_47 (ctX7_howMany (a := a) (d := d - 1) (by omega) hc_5) (by omega) rfl hl.1 rfl (mm_cat rfl) dX7_howManyTopped_4 hP hD hA hS rfl rfl (fun H locs hP hD hS => ?_)
  refine W.eq (g2 := F0 m 7 ls [.int r_1]) rfl ?_
  refine lv_istore (lv' := [(4, .int r_1), (3, .int (0 : Int32)), (0, .ref (a 0)), (1, .int x1), (2, .int x2)]) hx hb dX7_howManyTopped_7 hl (by decide) rfl (fun ls hl => ?_)
  refine lv_iconst (v := 0) hx hb dX7_howManyTopped_9 (by decide) ?_
  refine lv_istore (lv' := [(5, .int (0 : Int32)), (4, .int r_1), (3, .int (0 : Int32)), (0, .ref (a 0)), (1, .int x1), (2, .int x2)]) hx hb dX7_howManyTopped_10 hl (by decide) rfl (fun ls hl => ?_)
  exact tX7_howManyTopped_12 hd C0 hA N  N _ _ _ _ _ _ _ _ H locs ls hf hP hD hS (lv_sub hl [3, 4, 5, 2, 1, 0] rfl)

