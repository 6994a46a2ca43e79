/-! The class's own constructor -/
theorem mm_pt (a r b : va_W) : (a ++ r ++ b).Perm (a ++ b ++ r) := by
  rw [List.append_assoc, List.append_assoc]
  exact List.Perm.append_left a List.perm_append_comm
theorem mm_pfin (o q : Nat × va_E) (r s1 s2 s3 s4 s5 s6 : va_W) : ([o, q] ++ (s6 ++ (s5 ++ (s4 ++ (s3 ++ (s2 ++ (s1 ++ r))))))).Perm ([o] ++ r ++ [q] ++ s1 ++ s2 ++ s3 ++ s4 ++ s5 ++ s6) := by
  haveI : DecidableEq (Nat × va_E) := fun a b => Classical.propDecidable (a = b)
  rw [List.perm_iff_count]
  intro x
  simp only [List.count_append, List.count_cons, List.count_nil]
  omega
theorem mm_nretP {p : Program} {l : Launch} {e : Env} {R : Room} {s : State} {m : MethodId} {args : Array Value} {below : List Frame} {meth : Method} {c : Code} {H : Heap} {locs : List Loc} {cells slots : Nat} {own : String} {cc : ByteArray} {nL : Nat} {D : va_G} {cI cL cS cH : ClassId} {A : Nat → Prop} {pc : Nat} {ls : Array Slot} {mc ms o : Nat} {w' : va_W} {wf : (Nat → Nat) → va_W} (a : Nat → Nat) (ha : a 0 = o) (h2 : w'.Perm (wf a)) (C0 : mm_Cx p s m args meth c own cc nL none D (mm_T cI cL cS cH) A) (hP : va_P D mm_cl w' H) (hD : va_D A w') (hS : va_S A s.heap H locs) (hdg : decode cc pc = .ok (.return_, 1)) (hc1 : cells ≤ mc) (hc2 : slots ≤ ms) :
    W p l e R s m args below meth c H locs cells slots (mm_Zn below D A wf o mc ms args s) (F0 m pc ls []) := by
  obtain ⟨hx, hb, -, hown, hts, hr, hlocks, hK, -⟩ := C0
  refine W.widen (k := mc) (n := ms) hc1 hc2 ?_
  exact W.vret hx hb hr (fun t ht hW => ⟨⟨rfl, a, ha, by rw [ht]; exact mm_permP h2 hP, mm_permD h2 hD⟩, hS.F ht⟩) hS.2.2 hdg hlocks
theorem dX8_init_0 : decode cX8_init 0 = .ok (.aload_n 0, 1) := by decide +kernel
theorem dX8_init_1 : decode cX8_init 1 = .ok (.invokespecial 1, 3) := by decide +kernel
theorem dX8_init_4 : decode cX8_init 4 = .ok (.aload_n 0, 1) := by decide +kernel
theorem dX8_init_5 : decode cX8_init 5 = .ok (.new 7, 3) := by decide +kernel
theorem dX8_init_8 : decode cX8_init 8 = .ok (.dup, 1) := by decide +kernel
theorem dX8_init_9 : decode cX8_init 9 = .ok (.invokespecial 9, 3) := by decide +kernel
theorem dX8_init_12 : decode cX8_init 12 = .ok (.putfield 10, 3) := by decide +kernel
theorem dX8_init_15 : decode cX8_init 15 = .ok (.aload_n 0, 1) := by decide +kernel
theorem dX8_init_16 : decode cX8_init 16 = .ok (.new 7, 3) := by decide +kernel
theorem dX8_init_19 : decode cX8_init 19 = .ok (.dup, 1) := by decide +kernel
theorem dX8_init_20 : decode cX8_init 20 = .ok (.invokespecial 9, 3) := by decide +kernel
theorem dX8_init_23 : decode cX8_init 23 = .ok (.putfield 16, 3) := by decide +kernel
theorem dX8_init_26 : decode cX8_init 26 = .ok (.aload_n 0, 1) := by decide +kernel
theorem dX8_init_27 : decode cX8_init 27 = .ok (.new 19, 3) := by decide +kernel
theorem dX8_init_30 : decode cX8_init 30 = .ok (.dup, 1) := by decide +kernel
theorem dX8_init_31 : decode cX8_init 31 = .ok (.invokespecial 21, 3) := by decide +kernel
theorem dX8_init_34 : decode cX8_init 34 = .ok (.putfield 22, 3) := by decide +kernel
theorem dX8_init_37 : decode cX8_init 37 = .ok (.aload_n 0, 1) := by decide +kernel
theorem dX8_init_38 : decode cX8_init 38 = .ok (.new 26, 3) := by decide +kernel
theorem dX8_init_41 : decode cX8_init 41 = .ok (.dup, 1) := by decide +kernel
theorem dX8_init_42 : decode cX8_init 42 = .ok (.invokespecial 28, 3) := by decide +kernel
theorem dX8_init_45 : decode cX8_init 45 = .ok (.putfield 29, 3) := by decide +kernel
theorem dX8_init_48 : decode cX8_init 48 = .ok (.aload_n 0, 1) := by decide +kernel
theorem dX8_init_49 : decode cX8_init 49 = .ok (.new 33, 3) := by decide +kernel
theorem dX8_init_52 : decode cX8_init 52 = .ok (.dup, 1) := by decide +kernel
theorem dX8_init_53 : decode cX8_init 53 = .ok (.invokespecial 35, 3) := by decide +kernel
theorem dX8_init_56 : decode cX8_init 56 = .ok (.putfield 36, 3) := by decide +kernel
theorem dX8_init_59 : decode cX8_init 59 = .ok (.aload_n 0, 1) := by decide +kernel
theorem dX8_init_60 : decode cX8_init 60 = .ok (.new 40, 3) := by decide +kernel
theorem dX8_init_63 : decode cX8_init 63 = .ok (.dup, 1) := by decide +kernel
theorem dX8_init_64 : decode cX8_init 64 = .ok (.invokespecial 42, 3) := by decide +kernel
theorem dX8_init_67 : decode cX8_init 67 = .ok (.putfield 43, 3) := by decide +kernel
theorem dX8_init_70 : decode cX8_init 70 = .ok (.aload_n 0, 1) := by decide +kernel
theorem dX8_init_71 : decode cX8_init 71 = .ok (.new 47, 3) := by decide +kernel
theorem dX8_init_74 : decode cX8_init 74 = .ok (.dup, 1) := by decide +kernel
theorem dX8_init_75 : decode cX8_init 75 = .ok (.invokespecial 49, 3) := by decide +kernel
theorem dX8_init_78 : decode cX8_init 78 = .ok (.putfield 50, 3) := by decide +kernel
theorem dX8_init_81 : decode cX8_init 81 = .ok (.aload_n 0, 1) := by decide +kernel
theorem dX8_init_82 : decode cX8_init 82 = .ok (.new 54, 3) := by decide +kernel
theorem dX8_init_85 : decode cX8_init 85 = .ok (.dup, 1) := by decide +kernel
theorem dX8_init_86 : decode cX8_init 86 = .ok (.invokespecial 56, 3) := by decide +kernel
theorem dX8_init_89 : decode cX8_init 89 = .ok (.putfield 57, 3) := by decide +kernel
theorem dX8_init_92 : decode cX8_init 92 = .ok (.aload_n 0, 1) := by decide +kernel
theorem dX8_init_93 : decode cX8_init 93 = .ok (.bipush 6, 2) := by decide +kernel
theorem dX8_init_95 : decode cX8_init 95 = .ok (.anewarray 61, 3) := by decide +kernel
theorem dX8_init_98 : decode cX8_init 98 = .ok (.putfield 63, 3) := by decide +kernel
theorem dX8_init_101 : decode cX8_init 101 = .ok (.iconst 0, 1) := by decide +kernel
theorem dX8_init_102 : decode cX8_init 102 = .ok (.istore_n 1, 1) := by decide +kernel
theorem dX8_init_103 : decode cX8_init 103 = .ok (.iload_n 1, 1) := by decide +kernel
theorem dX8_init_104 : decode cX8_init 104 = .ok (.bipush 6, 2) := by decide +kernel
theorem dX8_init_106 : decode cX8_init 106 = .ok (.if_icmp .ge 22, 3) := by decide +kernel
theorem dX8_init_109 : decode cX8_init 109 = .ok (.aload_n 0, 1) := by decide +kernel
theorem dX8_init_110 : decode cX8_init 110 = .ok (.getfield 63, 3) := by decide +kernel
theorem dX8_init_113 : decode cX8_init 113 = .ok (.iload_n 1, 1) := by decide +kernel
theorem dX8_init_114 : decode cX8_init 114 = .ok (.new 61, 3) := by decide +kernel
theorem dX8_init_117 : decode cX8_init 117 = .ok (.dup, 1) := by decide +kernel
theorem dX8_init_118 : decode cX8_init 118 = .ok (.invokespecial 67, 3) := by decide +kernel
theorem dX8_init_121 : decode cX8_init 121 = .ok (.aastore, 1) := by decide +kernel
theorem dX8_init_122 : decode cX8_init 122 = .ok (.iinc 1 1, 3) := by decide +kernel
theorem dX8_init_125 : decode cX8_init 125 = .ok (.goto (-22), 3) := by decide +kernel
theorem dX8_init_128 : decode cX8_init 128 = .ok (.return_, 1) := by decide +kernel
abbrev wn_X8 (cI cL cS cH : ClassId) (a : Nat → Nat) : va_W := wd_X8 cI cL cS cH a false 2 4 2 4 0 0 0 z5_rowOf z5_colOf (mm_zs 32) (mm_zs 32) (mm_zs 64) (mm_zs 64) (mm_zs 64) (mm_zs 32) 2 4 2 4 0 0 0 z5_rowOf z5_colOf (mm_zs 32) (mm_zs 32) (mm_zs 64) (mm_zs 64) (mm_zs 64) (mm_zs 32) 0 0 0 0 0 0 (mm_zs 120) (mm_zs 121) (mm_zs 121) (mm_zs 121) 0 2 4 2 4 0 0 0 z5_rowOf z5_colOf (mm_zs 32) (mm_zs 32) (mm_zs 64) (mm_zs 64) (mm_zs 64) (mm_zs 32) (mm_zs 12) (mm_zs 12) false 0 0 0 0 2 4 2 4 0 0 0 z5_rowOf z5_colOf (mm_zs 32) (mm_zs 32) (mm_zs 64) (mm_zs 64) (mm_zs 64) (mm_zs 32) 2 4 2 4 0 0 0 z5_rowOf z5_colOf (mm_zs 32) (mm_zs 32) (mm_zs 64) (mm_zs 64) (mm_zs 64) (mm_zs 32) 2 4 2 4 0 0 0 z5_rowOf z5_colOf (mm_zs 32) (mm_zs 32) (mm_zs 64) (mm_zs 64) (mm_zs 64) (mm_zs 32) 2 4 2 4 0 0 0 z5_rowOf z5_colOf (mm_zs 32) (mm_zs 32) (mm_zs 64) (mm_zs 64) (mm_zs 64) (mm_zs 32) (mm_zs 3) (mm_zs 3) (mm_zs 680) (mm_zs 8) (mm_zs 7) 20 0 0 (mm_zs 40) (mm_zs 40) 0 0 0 (mm_zs 50) (mm_zs 24) 0 0 0 0 (mm_zl 60) 0 0 0 0 (mm_zl 60) 0 0 0 0 (mm_zl 60) 0 0 0 0 (mm_zl 60) 0 0 0 0 (mm_zl 60) 0 0 0 0 (mm_zl 60)
set_option maxHeartbeats 8000000 in
set_option maxRecDepth 100000 in
theorem cnX8 {l : Launch} {D : va_G} {cI cL cS cH : ClassId} {o : Nat} : mm_Cn l yX8_init cX8_init 2 5 98 4366 D (mm_T cI cL cS cH) o [(o, .inr (8, [.null, .null, .null, .null, .null, .null, .null, .null, .null, .int 0]))] (wn_X8 cI cL cS cH) := by
  refine mm_ofn (by decide) rfl (by decide) ?_
  intro p e s m args below meth c A H locs ls C0 hin hO1 hO2 hP hD hA hS hl
  have C0 : mm_Cx p s m args meth c RX8 cX8_init 2 none D (mm_T cI cL cS cH) A := C0
  obtain ⟨hx, hb, hml, hown, hts, hr, hlocks, hK, hSt⟩ := id C0
  obtain ⟨R0, hR0⟩ : ∃ R : va_W, R = [] := ⟨_, rfl⟩
  have hP : va_P D mm_cl ([(o, .inr (8, [.null, .null, .null, .null, .null, .null, .null, .null, .null, .int 0]))] ++ R0) H := by rw [hR0]; exact hP
  have hD : va_D A ([(o, .inr (8, [.null, .null, .null, .null, .null, .null, .null, .null, .null, .int 0]))] ++ R0) := by rw [hR0]; exact hD
  refine lv_aload_n hx hb dX8_init_0 rfl (lv_at hl 0 rfl) ?_
  refine mm_obj C0 ol_X8_1 hl.1 (by decide) dX8_init_1 ?_
  refine W.eq (g2 := F0 m 4 ls []) rfl ?_
  refine lv_aload_n hx hb dX8_init_4 rfl (lv_at hl 0 rfl) ?_
  refine mm_newo (ci := 5) (fs := [.int 0, .int 0, .int 0, .int 0, .int 0, .int 0, .int 0, .null, .null, .null, .null, .null, .null, .null, .null]) C0 hP hD hA hS iw_X5 tyX5 tyX5_ok kl_X8_7 kn_X5 ki_X5 rfl (by decide) (Nat.le_of_ble_eq_true rfl) (Nat.le_of_ble_eq_true rfl) dX8_init_5 (fun q1 H hP hD hS => ?_)
  refine lv_dup hx hb dX8_init_8 rfl ?_
  refine mm_callI2 (d := 5) (rest := [.ref q1, .ref o]) C0 hO1 hO2 li_X8_9 (cnX5 (o := q1)) (by decide) rfl rfl hl.1 rfl (mm_cat rfl) dX8_init_9 (Nat.le_of_ble_eq_true rfl) (Nat.le_of_ble_eq_true rfl) hP hD hA hS (fun b2 H locs hb0 hPn hDn hSn => ?_)
  clear hP hD hS
  subst hb0
  have hP := hPn
  have hD := hDn
  have hS := hSn
  rw [List.append_assoc] at hP hD
  generalize hR1 : R0 ++ wn_X5 cI cL cS cH b2 = R1 at hP hD
  refine mm_putf C0 hin hP hD hS iw_X8 tyX8 tyX8_ok nmX8 0 rfl rfl 0 (by decide) fl_X8_10 rfl rfl rfl rfl (Nat.le_of_ble_eq_true rfl) dX8_init_12 (w2 := ([(o, .inr (8, [.ref (b2 0), .null, .null, .null, .null, .null, .null, .null, .null, .int 0]))] ++ R1)) rfl (fun H locs hP hD hS => ?_)
  refine lv_aload_n hx hb dX8_init_15 rfl (lv_at hl 0 rfl) ?_
  refine mm_newo (ci := 5) (fs := [.int 0, .int 0, .int 0, .int 0, .int 0, .int 0, .int 0, .null, .null, .null, .null, .null, .null, .null, .null]) C0 hP hD hA hS iw_X5 tyX5 tyX5_ok kl_X8_7 kn_X5 ki_X5 rfl (by decide) (Nat.le_of_ble_eq_true rfl) (Nat.le_of_ble_eq_true rfl) dX8_init_16 (fun q3 H hP hD hS => ?_)
  refine lv_dup hx hb dX8_init_19 rfl ?_
  refine mm_callI2 (d := 5) (rest := [.ref q3, .ref o]) C0 hO1 hO2 li_X8_9 (cnX5 (o := q3)) (by decide) rfl rfl hl.1 rfl (mm_cat rfl) dX8_init_20 (Nat.le_of_ble_eq_true rfl) (Nat.le_of_ble_eq_true rfl) hP hD hA hS (fun b4 H locs hb0 hPn hDn hSn => ?_)
  clear hP hD hS
  subst hb0
  have hP := hPn
  have hD := hDn
  have hS := hSn
  rw [List.append_assoc] at hP hD
  generalize hR2 : R1 ++ wn_X5 cI cL cS cH b4 = R2 at hP hD
  refine mm_putf C0 hin hP hD hS iw_X8 tyX8 tyX8_ok nmX8 0 rfl rfl 1 (by decide) fl_X8_16 rfl rfl rfl rfl (Nat.le_of_ble_eq_true rfl) dX8_init_23 (w2 := ([(o, .inr (8, [.ref (b2 0), .ref (b4 0), .null, .null, .null, .null, .null, .null, .null, .int 0]))] ++ R2)) rfl (fun H locs hP hD hS => ?_)
  refine lv_aload_n hx hb dX8_init_26 rfl (lv_at hl 0 rfl) ?_
  refine mm_newo (ci := 2) (fs := [.int 0, .null, .null, .int 0, .null, .int 0, .int 0, .int 0, .null, .int 0]) C0 hP hD hA hS iw_X2 tyX2 tyX2_ok kl_X8_19 kn_X2 ki_X2 rfl (by decide) (Nat.le_of_ble_eq_true rfl) (Nat.le_of_ble_eq_true rfl) dX8_init_27 (fun q5 H hP hD hS => ?_)
  refine lv_dup hx hb dX8_init_30 rfl ?_
  refine mm_callJ2 (d := 5) (rest := [.ref q5, .ref o]) C0 hO1 hO2 lj_X8_21 (cnX2 (o := q5)) (by decide) rfl rfl hl.1 rfl (mm_cat rfl) dX8_init_31 (Nat.le_of_ble_eq_true rfl) (Nat.le_of_ble_eq_true rfl) hP hD hA hS (fun b6 H locs hb0 hPn hDn hSn => ?_)
  clear hP hD hS
  subst hb0
  have hP := hPn
  have hD := hDn
  have hS := hSn
  rw [List.append_assoc] at hP hD
  generalize hR3 : R2 ++ wn_X2 cI cL cS cH b6 = R3 at hP hD
  refine mm_putf C0 hin hP hD hS iw_X8 tyX8 tyX8_ok nmX8 0 rfl rfl 2 (by decide) fl_X8_22 rfl rfl rfl rfl (Nat.le_of_ble_eq_true rfl) dX8_init_34 (w2 := ([(o, .inr (8, [.ref (b2 0), .ref (b4 0), .ref (b6 0), .null, .null, .null, .null, .null, .null, .int 0]))] ++ R3)) rfl (fun H locs hP hD hS => ?_)
  refine lv_aload_n hx hb dX8_init_37 rfl (lv_at hl 0 rfl) ?_
  refine mm_newo (ci := 3) (fs := [.int 0, .null, .null, .null]) C0 hP hD hA hS iw_X3 tyX3 tyX3_ok kl_X8_26 kn_X3 ki_X3 rfl (by decide) (Nat.le_of_ble_eq_true rfl) (Nat.le_of_ble_eq_true rfl) dX8_init_38 (fun q7 H hP hD hS => ?_)
  refine lv_dup hx hb dX8_init_41 rfl ?_
  refine mm_callJ2 (d := 5) (rest := [.ref q7, .ref o]) C0 hO1 hO2 lj_X8_28 (cnX3 (o := q7)) (by decide) rfl rfl hl.1 rfl (mm_cat rfl) dX8_init_42 (Nat.le_of_ble_eq_true rfl) (Nat.le_of_ble_eq_true rfl) hP hD hA hS (fun b8 H locs hb0 hPn hDn hSn => ?_)
  clear hP hD hS
  subst hb0
  have hP := hPn
  have hD := hDn
  have hS := hSn
  rw [List.append_assoc] at hP hD
  generalize hR4 : R3 ++ wn_X3 cI cL cS cH b8 = R4 at hP hD
  refine mm_putf C0 hin hP hD hS iw_X8 tyX8 tyX8_ok nmX8 0 rfl rfl 3 (by decide) fl_X8_29 rfl rfl rfl rfl (Nat.le_of_ble_eq_true rfl) dX8_init_45 (w2 := ([(o, .inr (8, [.ref (b2 0), .ref (b4 0), .ref (b6 0), .ref (b8 0), .null, .null, .null, .null, .null, .int 0]))] ++ R4)) rfl (fun H locs hP hD hS => ?_)
  refine lv_aload_n hx hb dX8_init_48 rfl (lv_at hl 0 rfl) ?_
  refine mm_newo (ci := 4) (fs := [.int 0, .int 0, .int 0, .int 0, .null, .null, .null, .int 0]) C0 hP hD hA hS iw_X4 tyX4 tyX4_ok kl_X8_33 kn_X4 ki_X4 rfl (by decide) (Nat.le_of_ble_eq_true rfl) (Nat.le_of_ble_eq_true rfl) dX8_init_49 (fun q9 H hP hD hS => ?_)
  refine lv_dup hx hb dX8_init_52 rfl ?_
  refine mm_callI2 (d := 5) (rest := [.ref q9, .ref o]) C0 hO1 hO2 li_X8_35 (cnX4 (o := q9)) (by decide) rfl rfl hl.1 rfl (mm_cat rfl) dX8_init_53 (Nat.le_of_ble_eq_true rfl) (Nat.le_of_ble_eq_true rfl) hP hD hA hS (fun b10 H locs hb0 hPn hDn hSn => ?_)
  clear hP hD hS
  subst hb0
  have hP := hPn
  have hD := hDn
  have hS := hSn
  rw [List.append_assoc] at hP hD
  generalize hR5 : R4 ++ wn_X4 cI cL cS cH b10 = R5 at hP hD
  refine mm_putf C0 hin hP hD hS iw_X8 tyX8 tyX8_ok nmX8 0 rfl rfl 4 (by decide) fl_X8_36 rfl rfl rfl rfl (Nat.le_of_ble_eq_true rfl) dX8_init_56 (w2 := ([(o, .inr (8, [.ref (b2 0), .ref (b4 0), .ref (b6 0), .ref (b8 0), .ref (b10 0), .null, .null, .null, .null, .int 0]))] ++ R5)) rfl (fun H locs hP hD hS => ?_)
  refine lv_aload_n hx hb dX8_init_59 rfl (lv_at hl 0 rfl) ?_
  refine mm_newo (ci := 7) (fs := [.null, .null, .null]) C0 hP hD hA hS iw_X7 tyX7 tyX7_ok kl_X8_40 kn_X7 ki_X7 rfl (by decide) (Nat.le_of_ble_eq_true rfl) (Nat.le_of_ble_eq_true rfl) dX8_init_60 (fun q11 H hP hD hS => ?_)
  refine lv_dup hx hb dX8_init_63 rfl ?_
  refine mm_callJ2 (d := 5) (rest := [.ref q11, .ref o]) C0 hO1 hO2 lj_X8_42 (cnX7 (o := q11)) (by decide) rfl rfl hl.1 rfl (mm_cat rfl) dX8_init_64 (Nat.le_of_ble_eq_true rfl) (Nat.le_of_ble_eq_true rfl) hP hD hA hS (fun b12 H locs hb0 hPn hDn hSn => ?_)
  clear hP hD hS
  subst hb0
  have hP := hPn
  have hD := hDn
  have hS := hSn
  rw [List.append_assoc] at hP hD
  generalize hR6 : R5 ++ wn_X7 cI cL cS cH b12 = R6 at hP hD
  refine mm_putf C0 hin hP hD hS iw_X8 tyX8 tyX8_ok nmX8 0 rfl rfl 5 (by decide) fl_X8_43 rfl rfl rfl rfl (Nat.le_of_ble_eq_true rfl) dX8_init_67 (w2 := ([(o, .inr (8, [.ref (b2 0), .ref (b4 0), .ref (b6 0), .ref (b8 0), .ref (b10 0), .ref (b12 0), .null, .null, .null, .int 0]))] ++ R6)) rfl (fun H locs hP hD hS => ?_)
  refine lv_aload_n hx hb dX8_init_70 rfl (lv_at hl 0 rfl) ?_
  refine mm_newo (ci := 0) (fs := [.int 0, .int 0, .int 0, .null, .null]) C0 hP hD hA hS iw_X0 tyX0 tyX0_ok kl_X8_47 kn_X0 ki_X0 rfl (by decide) (Nat.le_of_ble_eq_true rfl) (Nat.le_of_ble_eq_true rfl) dX8_init_71 (fun q13 H hP hD hS => ?_)
  refine lv_dup hx hb dX8_init_74 rfl ?_
  refine mm_callJ2 (d := 5) (rest := [.ref q13, .ref o]) C0 hO1 hO2 lj_X8_49 (cnX0 (o := q13)) (by decide) rfl rfl hl.1 rfl (mm_cat rfl) dX8_init_75 (Nat.le_of_ble_eq_true rfl) (Nat.le_of_ble_eq_true rfl) hP hD hA hS (fun b14 H locs hb0 hPn hDn hSn => ?_)
  clear hP hD hS
  subst hb0
  have hP := hPn
  have hD := hDn
  have hS := hSn
  rw [List.append_assoc] at hP hD
  generalize hR7 : R6 ++ wn_X0 cI cL cS cH b14 = R7 at hP hD
  refine mm_putf C0 hin hP hD hS iw_X8 tyX8 tyX8_ok nmX8 0 rfl rfl 6 (by decide) fl_X8_50 rfl rfl rfl rfl (Nat.le_of_ble_eq_true rfl) dX8_init_78 (w2 := ([(o, .inr (8, [.ref (b2 0), .ref (b4 0), .ref (b6 0), .ref (b8 0), .ref (b10 0), .ref (b12 0), .ref (b14 0), .null, .null, .int 0]))] ++ R7)) rfl (fun H locs hP hD hS => ?_)
  refine lv_aload_n hx hb dX8_init_81 rfl (lv_at hl 0 rfl) ?_
  refine mm_newo (ci := 1) (fs := [.int 0, .int 0, .null, .null, .int 0]) C0 hP hD hA hS iw_X1 tyX1 tyX1_ok kl_X8_54 kn_X1 ki_X1 rfl (by decide) (Nat.le_of_ble_eq_true rfl) (Nat.le_of_ble_eq_true rfl) dX8_init_82 (fun q15 H hP hD hS => ?_)
  refine lv_dup hx hb dX8_init_85 rfl ?_
  refine mm_callJ2 (d := 5) (rest := [.ref q15, .ref o]) C0 hO1 hO2 lj_X8_56 (cnX1 (o := q15)) (by decide) rfl rfl hl.1 rfl (mm_cat rfl) dX8_init_86 (Nat.le_of_ble_eq_true rfl) (Nat.le_of_ble_eq_true rfl) hP hD hA hS (fun b16 H locs hb0 hPn hDn hSn => ?_)
  clear hP hD hS
  subst hb0
  have hP := hPn
  have hD := hDn
  have hS := hSn
  rw [List.append_assoc] at hP hD
  generalize hR8 : R7 ++ wn_X1 cI cL cS cH b16 = R8 at hP hD
  refine mm_putf C0 hin hP hD hS iw_X8 tyX8 tyX8_ok nmX8 0 rfl rfl 7 (by decide) fl_X8_57 rfl rfl rfl rfl (Nat.le_of_ble_eq_true rfl) dX8_init_89 (w2 := ([(o, .inr (8, [.ref (b2 0), .ref (b4 0), .ref (b6 0), .ref (b8 0), .ref (b10 0), .ref (b12 0), .ref (b14 0), .ref (b16 0), .null, .int 0]))] ++ R8)) rfl (fun H locs hP hD hS => ?_)
  refine lv_aload_n hx hb dX8_init_92 rfl (lv_at hl 0 rfl) ?_
  refine lv_bipush (v := 6) hx hb dX8_init_93 (by decide) ?_
  refine mm_newq (N := 6) 3 rfl C0 hO2 kl_X8_61 hP hD hA hS (by decide) (by decide) (by decide) (Nat.le_of_ble_eq_true rfl) (Nat.le_of_ble_eq_true rfl) dX8_init_95 (fun q17 H hP hD hS => ?_)
  have hP := mm_permP (mm_pt _ _ _) hP
  have hD := mm_permD (mm_pt _ _ _) hD
  have hP : va_P D mm_cl ([(o, .inr (8, [.ref (b2 0), .ref (b4 0), .ref (b6 0), .ref (b8 0), .ref (b10 0), .ref (b12 0), .ref (b14 0), .ref (b16 0), .null, .int 0])), (q17, mm_lo cH [none, none, none, none, none, none])] ++ R8) H := hP
  have hD : va_D A ([(o, .inr (8, [.ref (b2 0), .ref (b4 0), .ref (b6 0), .ref (b8 0), .ref (b10 0), .ref (b12 0), .ref (b14 0), .ref (b16 0), .null, .int 0])), (q17, mm_lo cH [none, none, none, none, none, none])] ++ R8) := hD
  refine mm_putf C0 hin hP hD hS iw_X8 tyX8 tyX8_ok nmX8 0 rfl rfl 8 (by decide) fl_X8_63 rfl rfl rfl rfl (Nat.le_of_ble_eq_true rfl) dX8_init_98 (w2 := ([(o, .inr (8, [.ref (b2 0), .ref (b4 0), .ref (b6 0), .ref (b8 0), .ref (b10 0), .ref (b12 0), .ref (b14 0), .ref (b16 0), .ref q17, .int 0])), (q17, mm_lo cH [none, none, none, none, none, none])] ++ R8)) rfl (fun H locs hP hD hS => ?_)
  refine lv_iconst (v := 0) hx hb dX8_init_101 (by decide) ?_
  refine lv_istore_n (lv' := [(1, .int 0), (0, .ref o)]) hx hb dX8_init_102 rfl hl (by decide) rfl (fun ls hl => ?_)
  refine lv_iload_n hx hb dX8_init_103 rfl (lv_at hl 0 rfl) ?_
  refine lv_bipush (v := 6) hx hb dX8_init_104 (by decide) ?_
  refine lv_icmp_ge (tgt := 128) hx hb dX8_init_106 (by decide) (fun c9 => absurd c9 (by decide)) (fun _ => ?_)
  refine lv_aload_n hx hb dX8_init_109 rfl (lv_at hl 1 rfl) ?_
  refine mm_get C0 hP iw_X8 0 rfl rfl 8 (by decide) fl_X8_63 rfl dX8_init_110 ?_
  refine lv_iload_n hx hb dX8_init_113 rfl (lv_at hl 0 rfl) ?_
  refine mm_newo (ci := 6) (fs := [.int 0, .int 0, .int 0, .int 0, .null]) C0 hP hD hA hS iw_X6 tyX6 tyX6_ok kl_X8_61 kn_X6 ki_X6 rfl (by decide) (Nat.le_of_ble_eq_true rfl) (Nat.le_of_ble_eq_true rfl) dX8_init_114 (fun q18 H hP hD hS => ?_)
  refine lv_dup hx hb dX8_init_117 rfl ?_
  refine mm_callJ2 (d := 5) (rest := [.ref q18, .int 0, .ref q17]) C0 hO1 hO2 lj_X8_67 (cnX6 (o := q18)) (by decide) rfl rfl hl.1 rfl (mm_cat rfl) dX8_init_118 (Nat.le_of_ble_eq_true rfl) (Nat.le_of_ble_eq_true rfl) hP hD hA hS (fun b19 H locs hb0 hPn hDn hSn => ?_)
  clear hP hD hS
  subst hb0
  have hP := hPn
  have hD := hDn
  have hS := hSn
  have hP := mm_permP (mm_pt _ _ _) hP
  have hD := mm_permD (mm_pt _ _ _) hD
  have hP : va_P D mm_cl ([(o, .inr (8, [.ref (b2 0), .ref (b4 0), .ref (b6 0), .ref (b8 0), .ref (b10 0), .ref (b12 0), .ref (b14 0), .ref (b16 0), .ref q17, .int 0])), (q17, mm_lo cH [none, none, none, none, none, none])] ++ wn_X6 cI cL cS cH b19 ++ R8) H := hP
  have hD : va_D A ([(o, .inr (8, [.ref (b2 0), .ref (b4 0), .ref (b6 0), .ref (b8 0), .ref (b10 0), .ref (b12 0), .ref (b14 0), .ref (b16 0), .ref q17, .int 0])), (q17, mm_lo cH [none, none, none, none, none, none])] ++ wn_X6 cI cL cS cH b19 ++ R8) := hD
  refine mm_astq (ci := 6) 3 rfl C0 hP hD hS 1 2 rfl rfl rfl rfl dX8_init_121 (w2 := ([(o, .inr (8, [.ref (b2 0), .ref (b4 0), .ref (b6 0), .ref (b8 0), .ref (b10 0), .ref (b12 0), .ref (b14 0), .ref (b16 0), .ref q17, .int 0])), (q17, mm_lo cH [some (b19 0), none, none, none, none, none])] ++ wn_X6 cI cL cS cH b19 ++ R8)) rfl (fun H locs hP hD hS => ?_)
  rw [List.append_assoc] at hP hD
  generalize hR9 : wn_X6 cI cL cS cH b19 ++ R8 = R9 at hP hD
  refine lv_iinc (v := 1) (lv' := [(1, .int 1), (0, .ref o)]) hx hb dX8_init_122 hl (k := 0) rfl (by decide) (by decide) rfl (fun ls hl => ?_)
  refine lv_goto (tgt := 103) hx hb dX8_init_125 (by decide) ?_
  refine lv_iload_n hx hb dX8_init_103 rfl (lv_at hl 0 rfl) ?_
  refine lv_bipush (v := 6) hx hb dX8_init_104 (by decide) ?_
  refine lv_icmp_ge (tgt := 128) hx hb dX8_init_106 (by decide) (fun c9 => absurd c9 (by decide)) (fun _ => ?_)
  refine lv_aload_n hx hb dX8_init_109 rfl (lv_at hl 1 rfl) ?_
  refine mm_get C0 hP iw_X8 0 rfl rfl 8 (by decide) fl_X8_63 rfl dX8_init_110 ?_
  refine lv_iload_n hx hb dX8_init_113 rfl (lv_at hl 0 rfl) ?_
  refine mm_newo (ci := 6) (fs := [.int 0, .int 0, .int 0, .int 0, .null]) C0 hP hD hA hS iw_X6 tyX6 tyX6_ok kl_X8_61 kn_X6 ki_X6 rfl (by decide) (Nat.le_of_ble_eq_true rfl) (Nat.le_of_ble_eq_true rfl) dX8_init_114 (fun q20 H hP hD hS => ?_)
  refine lv_dup hx hb dX8_init_117 rfl ?_
  refine mm_callJ2 (d := 5) (rest := [.ref q20, .int 1, .ref q17]) C0 hO1 hO2 lj_X8_67 (cnX6 (o := q20)) (by decide) rfl rfl hl.1 rfl (mm_cat rfl) dX8_init_118 (Nat.le_of_ble_eq_true rfl) (Nat.le_of_ble_eq_true rfl) hP hD hA hS (fun b21 H locs hb0 hPn hDn hSn => ?_)
  clear hP hD hS
  subst hb0
  have hP := hPn
  have hD := hDn
  have hS := hSn
  have hP := mm_permP (mm_pt _ _ _) hP
  have hD := mm_permD (mm_pt _ _ _) hD
  have hP : va_P D mm_cl ([(o, .inr (8, [.ref (b2 0), .ref (b4 0), .ref (b6 0), .ref (b8 0), .ref (b10 0), .ref (b12 0), .ref (b14 0), .ref (b16 0), .ref q17, .int 0])), (q17, mm_lo cH [some (b19 0), none, none, none, none, none])] ++ wn_X6 cI cL cS cH b21 ++ R9) H := hP
  have hD : va_D A ([(o, .inr (8, [.ref (b2 0), .ref (b4 0), .ref (b6 0), .ref (b8 0), .ref (b10 0), .ref (b12 0), .ref (b14 0), .ref (b16 0), .ref q17, .int 0])), (q17, mm_lo cH [some (b19 0), none, none, none, none, none])] ++ wn_X6 cI cL cS cH b21 ++ R9) := hD
  refine mm_astq (ci := 6) 3 rfl C0 hP hD hS 1 2 rfl rfl rfl rfl dX8_init_121 (w2 := ([(o, .inr (8, [.ref (b2 0), .ref (b4 0), .ref (b6 0), .ref (b8 0), .ref (b10 0), .ref (b12 0), .ref (b14 0), .ref (b16 0), .ref q17, .int 0])), (q17, mm_lo cH [some (b19 0), some (b21 0), none, none, none, none])] ++ wn_X6 cI cL cS cH b21 ++ R9)) rfl (fun H locs hP hD hS => ?_)
  rw [List.append_assoc] at hP hD
  generalize hR10 : wn_X6 cI cL cS cH b21 ++ R9 = R10 at hP hD
  refine lv_iinc (v := 2) (lv' := [(1, .int 2), (0, .ref o)]) hx hb dX8_init_122 hl (k := 0) rfl (by decide) (by decide) rfl (fun ls hl => ?_)
  refine lv_goto (tgt := 103) hx hb dX8_init_125 (by decide) ?_
  refine lv_iload_n hx hb dX8_init_103 rfl (lv_at hl 0 rfl) ?_
  refine lv_bipush (v := 6) hx hb dX8_init_104 (by decide) ?_
  refine lv_icmp_ge (tgt := 128) hx hb dX8_init_106 (by decide) (fun c9 => absurd c9 (by decide)) (fun _ => ?_)
  refine lv_aload_n hx hb dX8_init_109 rfl (lv_at hl 1 rfl) ?_
  refine mm_get C0 hP iw_X8 0 rfl rfl 8 (by decide) fl_X8_63 rfl dX8_init_110 ?_
  refine lv_iload_n hx hb dX8_init_113 rfl (lv_at hl 0 rfl) ?_
  refine mm_newo (ci := 6) (fs := [.int 0, .int 0, .int 0, .int 0, .null]) C0 hP hD hA hS iw_X6 tyX6 tyX6_ok kl_X8_61 kn_X6 ki_X6 rfl (by decide) (Nat.le_of_ble_eq_true rfl) (Nat.le_of_ble_eq_true rfl) dX8_init_114 (fun q22 H hP hD hS => ?_)
  refine lv_dup hx hb dX8_init_117 rfl ?_
  refine mm_callJ2 (d := 5) (rest := [.ref q22, .int 2, .ref q17]) C0 hO1 hO2 lj_X8_67 (cnX6 (o := q22)) (by decide) rfl rfl hl.1 rfl (mm_cat rfl) dX8_init_118 (Nat.le_of_ble_eq_true rfl) (Nat.le_of_ble_eq_true rfl) hP hD hA hS (fun b23 H locs hb0 hPn hDn hSn => ?_)
  clear hP hD hS
  subst hb0
  have hP := hPn
  have hD := hDn
  have hS := hSn
  have hP := mm_permP (mm_pt _ _ _) hP
  have hD := mm_permD (mm_pt _ _ _) hD
  have hP : va_P D mm_cl ([(o, .inr (8, [.ref (b2 0), .ref (b4 0), .ref (b6 0), .ref (b8 0), .ref (b10 0), .ref (b12 0), .ref (b14 0), .ref (b16 0), .ref q17, .int 0])), (q17, mm_lo cH [some (b19 0), some (b21 0), none, none, none, none])] ++ wn_X6 cI cL cS cH b23 ++ R10) H := hP
  have hD : va_D A ([(o, .inr (8, [.ref (b2 0), .ref (b4 0), .ref (b6 0), .ref (b8 0), .ref (b10 0), .ref (b12 0), .ref (b14 0), .ref (b16 0), .ref q17, .int 0])), (q17, mm_lo cH [some (b19 0), some (b21 0), none, none, none, none])] ++ wn_X6 cI cL cS cH b23 ++ R10) := hD
  refine mm_astq (ci := 6) 3 rfl C0 hP hD hS 1 2 rfl rfl rfl rfl dX8_init_121 (w2 := ([(o, .inr (8, [.ref (b2 0), .ref (b4 0), .ref (b6 0), .ref (b8 0), .ref (b10 0), .ref (b12 0), .ref (b14 0), .ref (b16 0), .ref q17, .int 0])), (q17, mm_lo cH [some (b19 0), some (b21 0), some (b23 0), none, none, none])] ++ wn_X6 cI cL cS cH b23 ++ R10)) rfl (fun H locs hP hD hS => ?_)
  rw [List.append_assoc] at hP hD
  generalize hR11 : wn_X6 cI cL cS cH b23 ++ R10 = R11 at hP hD
  refine lv_iinc (v := 3) (lv' := [(1, .int 3), (0, .ref o)]) hx hb dX8_init_122 hl (k := 0) rfl (by decide) (by decide) rfl (fun ls hl => ?_)
  refine lv_goto (tgt := 103) hx hb dX8_init_125 (by decide) ?_
  refine lv_iload_n hx hb dX8_init_103 rfl (lv_at hl 0 rfl) ?_
  refine lv_bipush (v := 6) hx hb dX8_init_104 (by decide) ?_
  refine lv_icmp_ge (tgt := 128) hx hb dX8_init_106 (by decide) (fun c9 => absurd c9 (by decide)) (fun _ => ?_)
  refine lv_aload_n hx hb dX8_init_109 rfl (lv_at hl 1 rfl) ?_
  refine mm_get C0 hP iw_X8 0 rfl rfl 8 (by decide) fl_X8_63 rfl dX8_init_110 ?_
  refine lv_iload_n hx hb dX8_init_113 rfl (lv_at hl 0 rfl) ?_
  refine mm_newo (ci := 6) (fs := [.int 0, .int 0, .int 0, .int 0, .null]) C0 hP hD hA hS iw_X6 tyX6 tyX6_ok kl_X8_61 kn_X6 ki_X6 rfl (by decide) (Nat.le_of_ble_eq_true rfl) (Nat.le_of_ble_eq_true rfl) dX8_init_114 (fun q24 H hP hD hS => ?_)
  refine lv_dup hx hb dX8_init_117 rfl ?_
  refine mm_callJ2 (d := 5) (rest := [.ref q24, .int 3, .ref q17]) C0 hO1 hO2 lj_X8_67 (cnX6 (o := q24)) (by decide) rfl rfl hl.1 rfl (mm_cat rfl) dX8_init_118 (Nat.le_of_ble_eq_true rfl) (Nat.le_of_ble_eq_true rfl) hP hD hA hS (fun b25 H locs hb0 hPn hDn hSn => ?_)
  clear hP hD hS
  subst hb0
  have hP := hPn
  have hD := hDn
  have hS := hSn
  have hP := mm_permP (mm_pt _ _ _) hP
  have hD := mm_permD (mm_pt _ _ _) hD
  have hP : va_P D mm_cl ([(o, .inr (8, [.ref (b2 0), .ref (b4 0), .ref (b6 0), .ref (b8 0), .ref (b10 0), .ref (b12 0), .ref (b14 0), .ref (b16 0), .ref q17, .int 0])), (q17, mm_lo cH [some (b19 0), some (b21 0), some (b23 0), none, none, none])] ++ wn_X6 cI cL cS cH b25 ++ R11) H := hP
  have hD : va_D A ([(o, .inr (8, [.ref (b2 0), .ref (b4 0), .ref (b6 0), .ref (b8 0), .ref (b10 0), .ref (b12 0), .ref (b14 0), .ref (b16 0), .ref q17, .int 0])), (q17, mm_lo cH [some (b19 0), some (b21 0), some (b23 0), none, none, none])] ++ wn_X6 cI cL cS cH b25 ++ R11) := hD
  refine mm_astq (ci := 6) 3 rfl C0 hP hD hS 1 2 rfl rfl rfl rfl dX8_init_121 (w2 := ([(o, .inr (8, [.ref (b2 0), .ref (b4 0), .ref (b6 0), .ref (b8 0), .ref (b10 0), .ref (b12 0), .ref (b14 0), .ref (b16 0), .ref q17, .int 0])), (q17, mm_lo cH [some (b19 0), some (b21 0), some (b23 0), some (b25 0), none, none])] ++ wn_X6 cI cL cS cH b25 ++ R11)) rfl (fun H locs hP hD hS => ?_)
  rw [List.append_assoc] at hP hD
  generalize hR12 : wn_X6 cI cL cS cH b25 ++ R11 = R12 at hP hD
  refine lv_iinc (v := 4) (lv' := [(1, .int 4), (0, .ref o)]) hx hb dX8_init_122 hl (k := 0) rfl (by decide) (by decide) rfl (fun ls hl => ?_)
  refine lv_goto (tgt := 103) hx hb dX8_init_125 (by decide) ?_
  refine lv_iload_n hx hb dX8_init_103 rfl (lv_at hl 0 rfl) ?_
  refine lv_bipush (v := 6) hx hb dX8_init_104 (by decide) ?_
  refine lv_icmp_ge (tgt := 128) hx hb dX8_init_106 (by decide) (fun c9 => absurd c9 (by decide)) (fun _ => ?_)
  refine lv_aload_n hx hb dX8_init_109 rfl (lv_at hl 1 rfl) ?_
  refine mm_get C0 hP iw_X8 0 rfl rfl 8 (by decide) fl_X8_63 rfl dX8_init_110 ?_
  refine lv_iload_n hx hb dX8_init_113 rfl (lv_at hl 0 rfl) ?_
  refine mm_newo (ci := 6) (fs := [.int 0, .int 0, .int 0, .int 0, .null]) C0 hP hD hA hS iw_X6 tyX6 tyX6_ok kl_X8_61 kn_X6 ki_X6 rfl (by decide) (Nat.le_of_ble_eq_true rfl) (Nat.le_of_ble_eq_true rfl) dX8_init_114 (fun q26 H hP hD hS => ?_)
  refine lv_dup hx hb dX8_init_117 rfl ?_
  refine mm_callJ2 (d := 5) (rest := [.ref q26, .int 4, .ref q17]) C0 hO1 hO2 lj_X8_67 (cnX6 (o := q26)) (by decide) rfl rfl hl.1 rfl (mm_cat rfl) dX8_init_118 (Nat.le_of_ble_eq_true rfl) (Nat.le_of_ble_eq_true rfl) hP hD hA hS (fun b27 H locs hb0 hPn hDn hSn => ?_)
  clear hP hD hS
  subst hb0
  have hP := hPn
  have hD := hDn
  have hS := hSn
  have hP := mm_permP (mm_pt _ _ _) hP
  have hD := mm_permD (mm_pt _ _ _) hD
  have hP : va_P D mm_cl ([(o, .inr (8, [.ref (b2 0), .ref (b4 0), .ref (b6 0), .ref (b8 0), .ref (b10 0), .ref (b12 0), .ref (b14 0), .ref (b16 0), .ref q17, .int 0])), (q17, mm_lo cH [some (b19 0), some (b21 0), some (b23 0), some (b25 0), none, none])] ++ wn_X6 cI cL cS cH b27 ++ R12) H := hP
  have hD : va_D A ([(o, .inr (8, [.ref (b2 0), .ref (b4 0), .ref (b6 0), .ref (b8 0), .ref (b10 0), .ref (b12 0), .ref (b14 0), .ref (b16 0), .ref q17, .int 0])), (q17, mm_lo cH [some (b19 0), some (b21 0), some (b23 0), some (b25 0), none, none])] ++ wn_X6 cI cL cS cH b27 ++ R12) := hD
  refine mm_astq (ci := 6) 3 rfl C0 hP hD hS 1 2 rfl rfl rfl rfl dX8_init_121 (w2 := ([(o, .inr (8, [.ref (b2 0), .ref (b4 0), .ref (b6 0), .ref (b8 0), .ref (b10 0), .ref (b12 0), .ref (b14 0), .ref (b16 0), .ref q17, .int 0])), (q17, mm_lo cH [some (b19 0), some (b21 0), some (b23 0), some (b25 0), some (b27 0), none])] ++ wn_X6 cI cL cS cH b27 ++ R12)) rfl (fun H locs hP hD hS => ?_)
  rw [List.append_assoc] at hP hD
  generalize hR13 : wn_X6 cI cL cS cH b27 ++ R12 = R13 at hP hD
  refine lv_iinc (v := 5) (lv' := [(1, .int 5), (0, .ref o)]) hx hb dX8_init_122 hl (k := 0) rfl (by decide) (by decide) rfl (fun ls hl => ?_)
  refine lv_goto (tgt := 103) hx hb dX8_init_125 (by decide) ?_
  refine lv_iload_n hx hb dX8_init_103 rfl (lv_at hl 0 rfl) ?_
  refine lv_bipush (v := 6) hx hb dX8_init_104 (by decide) ?_
  refine lv_icmp_ge (tgt := 128) hx hb dX8_init_106 (by decide) (fun c9 => absurd c9 (by decide)) (fun _ => ?_)
  refine lv_aload_n hx hb dX8_init_109 rfl (lv_at hl 1 rfl) ?_
  refine mm_get C0 hP iw_X8 0 rfl rfl 8 (by decide) fl_X8_63 rfl dX8_init_110 ?_
  refine lv_iload_n hx hb dX8_init_113 rfl (lv_at hl 0 rfl) ?_
  refine mm_newo (ci := 6) (fs := [.int 0, .int 0, .int 0, .int 0, .null]) C0 hP hD hA hS iw_X6 tyX6 tyX6_ok kl_X8_61 kn_X6 ki_X6 rfl (by decide) (Nat.le_of_ble_eq_true rfl) (Nat.le_of_ble_eq_true rfl) dX8_init_114 (fun q28 H hP hD hS => ?_)
  refine lv_dup hx hb dX8_init_117 rfl ?_
  refine mm_callJ2 (d := 5) (rest := [.ref q28, .int 5, .ref q17]) C0 hO1 hO2 lj_X8_67 (cnX6 (o := q28)) (by decide) rfl rfl hl.1 rfl (mm_cat rfl) dX8_init_118 (Nat.le_of_ble_eq_true rfl) (Nat.le_of_ble_eq_true rfl) hP hD hA hS (fun b29 H locs hb0 hPn hDn hSn => ?_)
  clear hP hD hS
  subst hb0
  have hP := hPn
  have hD := hDn
  have hS := hSn
  have hP := mm_permP (mm_pt _ _ _) hP
  have hD := mm_permD (mm_pt _ _ _) hD
  have hP : va_P D mm_cl ([(o, .inr (8, [.ref (b2 0), .ref (b4 0), .ref (b6 0), .ref (b8 0), .ref (b10 0), .ref (b12 0), .ref (b14 0), .ref (b16 0), .ref q17, .int 0])), (q17, mm_lo cH [some (b19 0), some (b21 0), some (b23 0), some (b25 0), some (b27 0), none])] ++ wn_X6 cI cL cS cH b29 ++ R13) H := hP
  have hD : va_D A ([(o, .inr (8, [.ref (b2 0), .ref (b4 0), .ref (b6 0), .ref (b8 0), .ref (b10 0), .ref (b12 0), .ref (b14 0), .ref (b16 0), .ref q17, .int 0])), (q17, mm_lo cH [some (b19 0), some (b21 0), some (b23 0), some (b25 0), some (b27 0), none])] ++ wn_X6 cI cL cS cH b29 ++ R13) := hD
  refine mm_astq (ci := 6) 3 rfl C0 hP hD hS 1 2 rfl rfl rfl rfl dX8_init_121 (w2 := ([(o, .inr (8, [.ref (b2 0), .ref (b4 0), .ref (b6 0), .ref (b8 0), .ref (b10 0), .ref (b12 0), .ref (b14 0), .ref (b16 0), .ref q17, .int 0])), (q17, mm_lo cH [some (b19 0), some (b21 0), some (b23 0), some (b25 0), some (b27 0), some (b29 0)])] ++ wn_X6 cI cL cS cH b29 ++ R13)) rfl (fun H locs hP hD hS => ?_)
  rw [List.append_assoc] at hP hD
  generalize hR14 : wn_X6 cI cL cS cH b29 ++ R13 = R14 at hP hD
  refine lv_iinc (v := 6) (lv' := [(1, .int 6), (0, .ref o)]) hx hb dX8_init_122 hl (k := 0) rfl (by decide) (by decide) rfl (fun ls hl => ?_)
  refine lv_goto (tgt := 103) hx hb dX8_init_125 (by decide) ?_
  refine lv_iload_n hx hb dX8_init_103 rfl (lv_at hl 0 rfl) ?_
  refine lv_bipush (v := 6) hx hb dX8_init_104 (by decide) ?_
  refine lv_icmp_ge (tgt := 128) hx hb dX8_init_106 (by decide) (fun _ => ?_) (fun c9 => absurd c9 (by decide))
  rw [show mm_lo cH [some (b19 0), some (b21 0), some (b23 0), some (b25 0), some (b27 0), some (b29 0)] = mm_lr cH [(b19 0), (b21 0), (b23 0), (b25 0), (b27 0), (b29 0)] from mm_lolr cH [(b19 0), (b21 0), (b23 0), (b25 0), (b27 0), (b29 0)]] at hP hD
  subst hR0 hR1 hR2 hR3 hR4 hR5 hR6 hR7 hR8 hR9 hR10 hR11 hR12 hR13 hR14
  exact mm_nretP (wf := wn_X8 cI cL cS cH) (fun k => [o, b2 0, b2 1, b2 2, b2 3, b2 4, b2 5, b2 6, b2 7, b2 8, b4 0, b4 1, b4 2, b4 3, b4 4, b4 5, b4 6, b4 7, b4 8, b6 0, b6 1, b6 2, b6 3, b6 4, b8 0, b8 1, b8 2, b8 3, b8 4, b8 5, b8 6, b8 7, b8 8, b8 9, b8 10, b8 11, b10 0, b10 1, b10 2, b10 3, b10 4, b10 5, b10 6, b10 7, b10 8, b10 9, b10 10, b10 11, b10 12, b10 13, b10 14, b10 15, b10 16, b10 17, b10 18, b10 19, b10 20, b10 21, b10 22, b10 23, b10 24, b10 25, b10 26, b10 27, b10 28, b10 29, b10 30, b10 31, b10 32, b10 33, b10 34, b10 35, b10 36, b10 37, b10 38, b10 39, b12 0, b12 1, b12 2, b12 3, b14 0, b14 1, b14 2, b16 0, b16 1, b16 2, q17, b19 0, b19 1, b21 0, b21 1, b23 0, b23 1, b25 0, b25 1, b27 0, b27 1, b29 0, b29 1].getD k 0) rfl (mm_pfin _ _ _ _ _ _ _ _ _) C0 hP hD hS dX8_init_128 (Nat.le_of_ble_eq_true rfl) (Nat.le_of_ble_eq_true rfl)
