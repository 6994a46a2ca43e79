/-! The law: the first call; from its entry -/
set_option maxHeartbeats 8000000 in
set_option maxRecDepth 100000 in
/-- the first call, of two fresh objects -/
theorem law_first {p : Program} {l : Launch} {e : Env} {s : State} {m : MethodId} {below : List Frame} {meth : Method} {c : Code} {D : va_G} {cI cL cS cH : ClassId} {bb : Nat} {xs : Nat → Int32} {a b : Nat → Nat} (C0 : lw_At p s m meth c bb 6 xs) (C1 : mm_Cx p s m #[Value.ref bb] meth c RL code 4 ret D (mm_T cI cL cS cH) (fun q => s.heap.size ≤ q)) {H : Heap} {locs : List Loc} {ls : Array Slot} {cells slots : Nat} (hc1 : cells ≤ 600000) (hc2 : slots ≤ 7302250)
    (hP : va_P D mm_cl (wn_X8 cI cL cS cH a ++ wn_X9 cI cL cS cH b) H) (hD : va_D (fun q => s.heap.size ≤ q) (wn_X8 cI cL cS cH a ++ wn_X9 cI cL cS cH b)) (hS : va_S (fun q => s.heap.size ≤ q) s.heap H locs) (hl : lv_has ls 4 [(0, .ref bb), (1, .ref (a 0)), (2, .ref (b 0)), (3, .int 0)]) : W p l e room_1 s m #[Value.ref bb] below meth c H locs cells slots (lw_Z below #[Value.ref bb] s) (F0 m 27 ls []) := by
  obtain ⟨hx, hb, hr, hml, hown, hts, hX, hbl, hlocks, hgv⟩ := id C0
  have hbA : ¬ (fun q : Nat => s.heap.size ≤ q) bb := Nat.not_le.mpr hbl
  have h0 : vp_in (0 : Int32) 6 := by unfold vp_in; decide +kernel
  have hi_1 : vp_in ((0 : Int32) + (1 : Int32)) 6 := by unfold vp_in; decide +kernel
  have hi_2 : vp_in ((0 : Int32) + (2 : Int32)) 6 := by unfold vp_in; decide +kernel
  have hi_3 : vp_in ((0 : Int32) + (3 : Int32)) 6 := by unfold vp_in; decide +kernel
  have hi_4 : vp_in ((0 : Int32) + (4 : Int32)) 6 := by unfold vp_in; decide +kernel
  have hi_5 : vp_in ((0 : Int32) + (5 : Int32)) 6 := by unfold vp_in; decide +kernel
  refine lv_aload_n hx hb dL_law_27 rfl (lv_at hl 0 rfl) ?_
  refine lv_iload_n hx hb dL_law_28 rfl (lv_at hl 3 rfl) ?_
  refine va_sld hx hb hX hbl hbA hS h0 dL_law_29 ?_
  refine lv_bipush (v := 63) hx hb dL_law_30 (by decide) ?_
  refine lv_iand hx hb dL_law_32 ?_
  obtain ⟨j, hj, ej⟩ := pk_andE (xs (0 : Int32).toNatClampNeg) (m := 63) 6 (by decide)
  rw [ej]
  by_cases h39 : 39 ≤ j
  · refine lv_tableOut (tgt := 1392) hx hb dL_law_33 (by rw [nI_toInt (by omega)]; omega) (by decide) ?_
    exact law_back C0 hc1 hc2 hS hl
  · have hk : j < 39 := by omega
    have hlt : j < 2 ^ 31 := by omega
    match j, hk with
    | 0, _ =>
      refine lv_tableIn (off := 171) (tgt := 204) hx hb dL_law_33 (by decide +kernel) (by decide +kernel) (by decide +kernel) (by decide) ?_
      obtain ⟨r, p0, p1, p2, p3, p4, p5, p6, p7, p8, p9, p10, p11, p12, q0, q1, q2, q3, q4, q5, q6, q7, q8, q9, q10, q11, h8, h9⟩ := pp_0 (xs ((0 : Int32) + (1 : Int32)).toNatClampNeg)
      exact lc_0 C1 hX hbl hi_1 rfl h8 h9 hc1 hc2 hP hD hS hl (fun H locs _ _ hS => law_back C0 hc1 hc2 hS hl)
    | 1, _ =>
      refine lv_tableIn (off := 194) (tgt := 227) hx hb dL_law_33 (by decide +kernel) (by decide +kernel) (by decide +kernel) (by decide) ?_
      obtain ⟨r, p0, p1, p2, p3, p4, q0, q1, q2, q3, q4, h8, h9⟩ := pp_1 (xs ((0 : Int32) + (1 : Int32)).toNatClampNeg)
      exact lc_1 C1 hX hbl hi_1 rfl h8 h9 hc1 hc2 hP hD hS hl (fun H locs _ _ hS => law_back C0 hc1 hc2 hS hl)
    | 2, _ =>
      refine lv_tableIn (off := 217) (tgt := 250) hx hb dL_law_33 (by decide +kernel) (by decide +kernel) (by decide +kernel) (by decide) ?_
      obtain ⟨r, p0, p1, q0, q1, h8, h9⟩ := pp_2 (xs ((0 : Int32) + (1 : Int32)).toNatClampNeg)
      exact lc_2 C1 hX hbl hi_1 rfl h8 h9 hc1 hc2 hP hD hS hl (fun H locs _ _ hS => law_back C0 hc1 hc2 hS hl)
    | 3, _ =>
      refine lv_tableIn (off := 240) (tgt := 273) hx hb dL_law_33 (by decide +kernel) (by decide +kernel) (by decide +kernel) (by decide) ?_
      obtain ⟨r, p0, p1, p2, p3, p4, p5, p6, q0, q1, q2, q3, q4, q5, q6, q7, h8, h9⟩ := pp_3 
      exact lc_3 C1 hX hbl  h8 h9 hc1 hc2 hP hD hS hl (fun H locs _ _ hS => law_back C0 hc1 hc2 hS hl)
    | 4, _ =>
      refine lv_tableIn (off := 253) (tgt := 286) hx hb dL_law_33 (by decide +kernel) (by decide +kernel) (by decide +kernel) (by decide) ?_
      obtain ⟨r, p0, p1, p2, p3, p4, p5, p6, p7, p8, p9, p10, p11, p12, p13, p14, q0, q1, q2, q3, q4, q5, q6, q7, q8, q9, q10, q11, q12, q13, q14, q15, q16, q17, q18, q19, q20, q21, q22, h8, h9⟩ := pp_4 (xs ((0 : Int32) + (1 : Int32)).toNatClampNeg) (xs ((0 : Int32) + (2 : Int32)).toNatClampNeg)
      exact lc_4 C1 hX hbl hi_1 rfl hi_2 rfl h8 h9 hc1 hc2 hP hD hS hl (fun H locs _ _ hS => law_back C0 hc1 hc2 hS hl)
    | 5, _ =>
      refine lv_tableIn (off := 286) (tgt := 319) hx hb dL_law_33 (by decide +kernel) (by decide +kernel) (by decide +kernel) (by decide) ?_
      obtain ⟨r, p0, p1, p2, p3, p4, p5, q0, q1, q2, q3, q4, q5, h8, h9⟩ := pp_5 
      exact lc_5 C1 hX hbl  h8 h9 hc1 hc2 hP hD hS hl (fun H locs _ _ hS => law_back C0 hc1 hc2 hS hl)
    | 6, _ =>
      refine lv_tableIn (off := 299) (tgt := 332) hx hb dL_law_33 (by decide +kernel) (by decide +kernel) (by decide +kernel) (by decide) ?_
      obtain ⟨r, h8, h9⟩ := pp_6 (xs ((0 : Int32) + (1 : Int32)).toNatClampNeg) (xs ((0 : Int32) + (2 : Int32)).toNatClampNeg)
      exact lc_6 C1 hX hbl hi_1 rfl hi_2 rfl h8 h9 hc1 hc2 hP hD hS hl (fun H locs _ _ hS => law_back C0 hc1 hc2 hS hl)
    | 7, _ =>
      refine lv_tableIn (off := 332) (tgt := 365) hx hb dL_law_33 (by decide +kernel) (by decide +kernel) (by decide +kernel) (by decide) ?_
      obtain ⟨r, h8, h9⟩ := pp_7 (xs ((0 : Int32) + (1 : Int32)).toNatClampNeg)
      exact lc_7 C1 hX hbl hi_1 rfl h8 h9 hc1 hc2 hP hD hS hl (fun H locs _ _ hS => law_back C0 hc1 hc2 hS hl)
    | 8, _ =>
      refine lv_tableIn (off := 355) (tgt := 388) hx hb dL_law_33 (by decide +kernel) (by decide +kernel) (by decide +kernel) (by decide) ?_
      obtain ⟨r, h8, h9⟩ := pp_8 (xs ((0 : Int32) + (1 : Int32)).toNatClampNeg) (xs ((0 : Int32) + (2 : Int32)).toNatClampNeg)
      exact lc_8 C1 hX hbl hi_1 rfl hi_2 rfl h8 h9 hc1 hc2 hP hD hS hl (fun H locs _ _ hS => law_back C0 hc1 hc2 hS hl)
    | 9, _ =>
      refine lv_tableIn (off := 388) (tgt := 421) hx hb dL_law_33 (by decide +kernel) (by decide +kernel) (by decide +kernel) (by decide) ?_
      obtain ⟨r, h8, h9⟩ := pp_9 (xs ((0 : Int32) + (1 : Int32)).toNatClampNeg) (xs ((0 : Int32) + (2 : Int32)).toNatClampNeg)
      exact lc_9 C1 hX hbl hi_1 rfl hi_2 rfl h8 h9 hc1 hc2 hP hD hS hl (fun H locs _ _ hS => law_back C0 hc1 hc2 hS hl)
    | 10, _ =>
      refine lv_tableIn (off := 421) (tgt := 454) hx hb dL_law_33 (by decide +kernel) (by decide +kernel) (by decide +kernel) (by decide) ?_
      obtain ⟨r, h8, h9⟩ := pp_10 (xs ((0 : Int32) + (1 : Int32)).toNatClampNeg)
      exact lc_10 C1 hX hbl hi_1 rfl h8 h9 hc1 hc2 hP hD hS hl (fun H locs _ _ hS => law_back C0 hc1 hc2 hS hl)
    | 11, _ =>
      refine lv_tableIn (off := 444) (tgt := 477) hx hb dL_law_33 (by decide +kernel) (by decide +kernel) (by decide +kernel) (by decide) ?_
      obtain ⟨r, p0, p1, p2, q0, q1, q2, h8, h9⟩ := pp_11 (xs ((0 : Int32) + (1 : Int32)).toNatClampNeg) (xs ((0 : Int32) + (2 : Int32)).toNatClampNeg)
      exact lc_11 C1 hX hbl hi_1 rfl hi_2 rfl h8 h9 hc1 hc2 hP hD hS hl (fun H locs _ _ hS => law_back C0 hc1 hc2 hS hl)
    | 12, _ =>
      refine lv_tableIn (off := 477) (tgt := 510) hx hb dL_law_33 (by decide +kernel) (by decide +kernel) (by decide +kernel) (by decide) ?_
      obtain ⟨r, p0, p1, p2, q0, q1, q2, h8, h9⟩ := pp_12 (xs ((0 : Int32) + (1 : Int32)).toNatClampNeg) (xs ((0 : Int32) + (2 : Int32)).toNatClampNeg) (xs ((0 : Int32) + (3 : Int32)).toNatClampNeg)
      exact lc_12 C1 hX hbl hi_1 rfl hi_2 rfl hi_3 rfl h8 h9 hc1 hc2 hP hD hS hl (fun H locs _ _ hS => law_back C0 hc1 hc2 hS hl)
    | 13, _ =>
      refine lv_tableIn (off := 520) (tgt := 553) hx hb dL_law_33 (by decide +kernel) (by decide +kernel) (by decide +kernel) (by decide) ?_
      obtain ⟨r, p0, p1, p2, p3, p4, p5, p6, p7, p8, p9, p10, p11, p12, p13, p14, p15, p16, q0, q1, q2, q3, q4, q5, q6, q7, q8, q9, q10, q11, q12, q13, q14, q15, q16, q17, q18, q19, q20, q21, q22, q23, h8, h9⟩ := pp_13 (xs ((0 : Int32) + (1 : Int32)).toNatClampNeg)
      exact lc_13 C1 hX hbl hi_1 rfl h8 h9 hc1 hc2 hP hD hS hl (fun H locs _ _ hS => law_back C0 hc1 hc2 hS hl)
    | 14, _ =>
      refine lv_tableIn (off := 543) (tgt := 576) hx hb dL_law_33 (by decide +kernel) (by decide +kernel) (by decide +kernel) (by decide) ?_
      obtain ⟨r, p0, p1, p2, p3, p4, p5, p6, p7, p8, p9, p10, p11, p12, p13, p14, p15, p16, q0, q1, q2, q3, q4, q5, q6, q7, q8, q9, q10, q11, q12, q13, q14, q15, q16, q17, q18, q19, q20, q21, q22, q23, h8, h9⟩ := pp_14 (xs ((0 : Int32) + (1 : Int32)).toNatClampNeg) (xs ((0 : Int32) + (2 : Int32)).toNatClampNeg)
      exact lc_14 C1 hX hbl hi_1 rfl hi_2 rfl h8 h9 hc1 hc2 hP hD hS hl (fun H locs _ _ hS => law_back C0 hc1 hc2 hS hl)
    | 15, _ =>
      refine lv_tableIn (off := 576) (tgt := 609) hx hb dL_law_33 (by decide +kernel) (by decide +kernel) (by decide +kernel) (by decide) ?_
      obtain ⟨r, p0, p1, p2, p3, p4, p5, p6, p7, p8, p9, p10, p11, p12, p13, p14, p15, p16, q0, q1, q2, q3, q4, q5, q6, q7, q8, q9, q10, q11, q12, q13, q14, q15, q16, q17, q18, q19, q20, q21, q22, q23, h8, h9⟩ := pp_15 (xs ((0 : Int32) + (1 : Int32)).toNatClampNeg) (xs ((0 : Int32) + (2 : Int32)).toNatClampNeg)
      exact lc_15 C1 hX hbl hi_1 rfl hi_2 rfl h8 h9 hc1 hc2 hP hD hS hl (fun H locs _ _ hS => law_back C0 hc1 hc2 hS hl)
    | 16, _ =>
      refine lv_tableIn (off := 609) (tgt := 642) hx hb dL_law_33 (by decide +kernel) (by decide +kernel) (by decide +kernel) (by decide) ?_
      obtain ⟨r, p0, p1, p2, p3, p4, p5, p6, p7, p8, p9, p10, p11, p12, p13, p14, p15, p16, q0, q1, q2, q3, q4, q5, q6, q7, q8, q9, q10, q11, q12, q13, q14, q15, q16, q17, q18, q19, q20, q21, q22, q23, h8, h9⟩ := pp_16 (xs ((0 : Int32) + (1 : Int32)).toNatClampNeg) (xs ((0 : Int32) + (2 : Int32)).toNatClampNeg)
      exact lc_16 C1 hX hbl hi_1 rfl hi_2 rfl h8 h9 hc1 hc2 hP hD hS hl (fun H locs _ _ hS => law_back C0 hc1 hc2 hS hl)
    | 17, _ =>
      refine lv_tableIn (off := 642) (tgt := 675) hx hb dL_law_33 (by decide +kernel) (by decide +kernel) (by decide +kernel) (by decide) ?_
      obtain ⟨r, p0, p1, p2, p3, p4, p5, p6, p7, p8, p9, p10, p11, p12, p13, p14, p15, p16, p17, p18, p19, p20, p21, p22, p23, p24, p25, p26, p27, p28, p29, p30, p31, p32, p33, p34, p35, p36, p37, p38, p39, p40, p41, p42, p43, p44, p45, p46, p47, p48, p49, p50, p51, p52, p53, p54, p55, p56, p57, p58, p59, p60, p61, q0, q1, q2, q3, q4, q5, q6, q7, q8, q9, q10, q11, q12, q13, q14, q15, q16, q17, q18, q19, q20, q21, q22, q23, q24, q25, q26, q27, h8, h9⟩ := pp_17 (xs ((0 : Int32) + (1 : Int32)).toNatClampNeg) (xs ((0 : Int32) + (2 : Int32)).toNatClampNeg)
      exact lc_17 C1 hX hbl hi_1 rfl hi_2 rfl h8 h9 hc1 hc2 hP hD hS hl (fun H locs _ _ hS => law_back C0 hc1 hc2 hS hl)
    | 18, _ =>
      refine lv_tableIn (off := 675) (tgt := 708) hx hb dL_law_33 (by decide +kernel) (by decide +kernel) (by decide +kernel) (by decide) ?_
      obtain ⟨r, p0, p1, p2, p3, p4, p5, p6, p7, p8, p9, p10, p11, p12, p13, p14, p15, p16, p17, p18, p19, p20, p21, p22, p23, p24, p25, p26, p27, p28, p29, p30, p31, p32, p33, p34, p35, p36, p37, p38, p39, p40, p41, p42, p43, p44, p45, p46, p47, p48, p49, p50, p51, p52, p53, p54, p55, p56, p57, p58, p59, p60, p61, p62, p63, p64, p65, p66, q0, q1, q2, q3, q4, q5, q6, q7, q8, q9, q10, q11, q12, q13, q14, q15, q16, q17, q18, q19, q20, q21, q22, q23, q24, q25, q26, q27, h8, h9⟩ := pp_18 (xs ((0 : Int32) + (1 : Int32)).toNatClampNeg)
      exact lc_18 C1 hX hbl hi_1 rfl h8 h9 hc1 hc2 hP hD hS hl (fun H locs _ _ hS => law_back C0 hc1 hc2 hS hl)
    | 19, _ =>
      refine lv_tableIn (off := 698) (tgt := 731) hx hb dL_law_33 (by decide +kernel) (by decide +kernel) (by decide +kernel) (by decide) ?_
      obtain ⟨r, p0, p1, p2, p3, p4, p5, p6, p7, p8, p9, p10, p11, p12, p13, p14, p15, p16, q0, q1, q2, q3, q4, q5, q6, q7, q8, q9, q10, q11, q12, q13, q14, q15, q16, q17, q18, q19, q20, q21, q22, q23, h8, h9⟩ := pp_19 (xs ((0 : Int32) + (1 : Int32)).toNatClampNeg) (xs ((0 : Int32) + (2 : Int32)).toNatClampNeg) (xs ((0 : Int32) + (3 : Int32)).toNatClampNeg)
      exact lc_19 C1 hX hbl hi_1 rfl hi_2 rfl hi_3 rfl h8 h9 hc1 hc2 hP hD hS hl (fun H locs _ _ hS => law_back C0 hc1 hc2 hS hl)
    | 20, _ =>
      refine lv_tableIn (off := 741) (tgt := 774) hx hb dL_law_33 (by decide +kernel) (by decide +kernel) (by decide +kernel) (by decide) ?_
      obtain ⟨r, p0, q0, q1, h8, h9⟩ := pp_20 (xs ((0 : Int32) + (1 : Int32)).toNatClampNeg) (xs ((0 : Int32) + (2 : Int32)).toNatClampNeg)
      exact lc_20 C1 hX hbl hi_1 rfl hi_2 rfl h8 h9 hc1 hc2 hP hD hS hl (fun H locs _ _ hS => law_back C0 hc1 hc2 hS hl)
    | 21, _ =>
      refine lv_tableIn (off := 774) (tgt := 807) hx hb dL_law_33 (by decide +kernel) (by decide +kernel) (by decide +kernel) (by decide) ?_
      obtain ⟨r, p0, p1, p2, q0, q1, q2, q3, q4, q5, q6, h8, h9⟩ := pp_21 (xs ((0 : Int32) + (1 : Int32)).toNatClampNeg) (xs ((0 : Int32) + (2 : Int32)).toNatClampNeg)
      exact lc_21 C1 hX hbl hi_1 rfl hi_2 rfl h8 h9 hc1 hc2 hP hD hS hl (fun H locs _ _ hS => law_back C0 hc1 hc2 hS hl)
    | 22, _ =>
      refine lv_tableIn (off := 807) (tgt := 840) hx hb dL_law_33 (by decide +kernel) (by decide +kernel) (by decide +kernel) (by decide) ?_
      obtain ⟨r, p0, q0, q1, h8, h9⟩ := pp_22 (xs ((0 : Int32) + (1 : Int32)).toNatClampNeg) (xs ((0 : Int32) + (2 : Int32)).toNatClampNeg)
      exact lc_22 C1 hX hbl hi_1 rfl hi_2 rfl h8 h9 hc1 hc2 hP hD hS hl (fun H locs _ _ hS => law_back C0 hc1 hc2 hS hl)
    | 23, _ =>
      refine lv_tableIn (off := 840) (tgt := 873) hx hb dL_law_33 (by decide +kernel) (by decide +kernel) (by decide +kernel) (by decide) ?_
      obtain ⟨r, p0, p1, p2, q0, q1, q2, q3, q4, q5, q6, h8, h9⟩ := pp_23 (xs ((0 : Int32) + (1 : Int32)).toNatClampNeg) (xs ((0 : Int32) + (2 : Int32)).toNatClampNeg) (xs ((0 : Int32) + (3 : Int32)).toNatClampNeg)
      exact lc_23 C1 hX hbl hi_1 rfl hi_2 rfl hi_3 rfl h8 h9 hc1 hc2 hP hD hS hl (fun H locs _ _ hS => law_back C0 hc1 hc2 hS hl)
    | 24, _ =>
      refine lv_tableIn (off := 883) (tgt := 916) hx hb dL_law_33 (by decide +kernel) (by decide +kernel) (by decide +kernel) (by decide) ?_
      obtain ⟨r, p0, p1, p2, q0, q1, q2, q3, q4, q5, q6, h8, h9⟩ := pp_24 (xs ((0 : Int32) + (1 : Int32)).toNatClampNeg) (xs ((0 : Int32) + (2 : Int32)).toNatClampNeg)
      exact lc_24 C1 hX hbl hi_1 rfl hi_2 rfl h8 h9 hc1 hc2 hP hD hS hl (fun H locs _ _ hS => law_back C0 hc1 hc2 hS hl)
    | 25, _ =>
      refine lv_tableIn (off := 916) (tgt := 949) hx hb dL_law_33 (by decide +kernel) (by decide +kernel) (by decide +kernel) (by decide) ?_
      obtain ⟨r, p0, p1, p2, p3, p4, p5, p6, p7, p8, p9, p10, p11, p12, p13, q0, q1, q2, q3, q4, q5, q6, q7, q8, q9, q10, q11, q12, h8, h9⟩ := pp_25 
      exact lc_25 C1 hX hbl  h8 h9 hc1 hc2 hP hD hS hl (fun H locs _ _ hS => law_back C0 hc1 hc2 hS hl)
    | 26, _ =>
      refine lv_tableIn (off := 929) (tgt := 962) hx hb dL_law_33 (by decide +kernel) (by decide +kernel) (by decide +kernel) (by decide) ?_
      obtain ⟨r, p0, p1, p2, p3, p4, p5, p6, p7, p8, p9, p10, p11, p12, q0, q1, q2, q3, q4, q5, q6, q7, q8, q9, q10, q11, h8, h9⟩ := pp_26 
      exact lc_26 C1 hX hbl  h8 h9 hc1 hc2 hP hD hS hl (fun H locs _ _ hS => law_back C0 hc1 hc2 hS hl)
    | 27, _ =>
      refine lv_tableIn (off := 942) (tgt := 975) hx hb dL_law_33 (by decide +kernel) (by decide +kernel) (by decide +kernel) (by decide) ?_
      obtain ⟨r, p0, p1, q0, q1, h8, h9⟩ := pp_27 
      exact lc_27 C1 hX hbl  h8 h9 hc1 hc2 hP hD hS hl (fun H locs _ _ hS => law_back C0 hc1 hc2 hS hl)
    | 28, _ =>
      refine lv_tableIn (off := 955) (tgt := 988) hx hb dL_law_33 (by decide +kernel) (by decide +kernel) (by decide +kernel) (by decide) ?_
      obtain ⟨r, p0, p1, q0, q1, h8, h9⟩ := pp_28 
      exact lc_28 C1 hX hbl  h8 h9 hc1 hc2 hP hD hS hl (fun H locs _ _ hS => law_back C0 hc1 hc2 hS hl)
    | 29, _ =>
      refine lv_tableIn (off := 968) (tgt := 1001) hx hb dL_law_33 (by decide +kernel) (by decide +kernel) (by decide +kernel) (by decide) ?_
      obtain ⟨r, p0, p1, q0, q1, h8, h9⟩ := pp_29 (xs ((0 : Int32) + (1 : Int32)).toNatClampNeg)
      exact lc_29 C1 hX hbl hi_1 rfl h8 h9 hc1 hc2 hP hD hS hl (fun H locs _ _ hS => law_back C0 hc1 hc2 hS hl)
    | 30, _ =>
      refine lv_tableIn (off := 991) (tgt := 1024) hx hb dL_law_33 (by decide +kernel) (by decide +kernel) (by decide +kernel) (by decide) ?_
      obtain ⟨r, p0, p1, p2, q0, q1, q2, q3, h8, h9⟩ := pp_30 (xs ((0 : Int32) + (1 : Int32)).toNatClampNeg) (xs ((0 : Int32) + (2 : Int32)).toNatClampNeg) (xs ((0 : Int32) + (3 : Int32)).toNatClampNeg)
      exact lc_30 C1 hX hbl hi_1 rfl hi_2 rfl hi_3 rfl h8 h9 hc1 hc2 hP hD hS hl (fun H locs _ _ hS => law_back C0 hc1 hc2 hS hl)
    | 31, _ =>
      refine lv_tableIn (off := 1034) (tgt := 1067) hx hb dL_law_33 (by decide +kernel) (by decide +kernel) (by decide +kernel) (by decide) ?_
      obtain ⟨r, h8, h9⟩ := pp_31 (xs ((0 : Int32) + (1 : Int32)).toNatClampNeg)
      exact lc_31 C1 hX hbl hi_1 rfl h8 h9 hc1 hc2 hP hD hS hl (fun H locs _ _ hS => law_back C0 hc1 hc2 hS hl)
    | 32, _ =>
      refine lv_tableIn (off := 1057) (tgt := 1090) hx hb dL_law_33 (by decide +kernel) (by decide +kernel) (by decide +kernel) (by decide) ?_
      obtain ⟨r, p0, p1, p2, p3, p4, p5, p6, p7, p8, p9, p10, p11, q0, q1, h8, h9⟩ := pp_32 (xs ((0 : Int32) + (1 : Int32)).toNatClampNeg) (xs ((0 : Int32) + (2 : Int32)).toNatClampNeg)
      exact lc_32 C1 hX hbl hi_1 rfl hi_2 rfl h8 h9 hc1 hc2 hP hD hS hl (fun H locs _ _ hS => law_back C0 hc1 hc2 hS hl)
    | 33, _ =>
      refine lv_tableIn (off := 1090) (tgt := 1123) hx hb dL_law_33 (by decide +kernel) (by decide +kernel) (by decide +kernel) (by decide) ?_
      obtain ⟨r, p0, p1, p2, p3, p4, p5, p6, p7, p8, p9, p10, p11, p12, p13, p14, p15, p16, p17, p18, p19, p20, p21, p22, p23, q0, q1, q2, h8, h9⟩ := pp_33 (xs ((0 : Int32) + (1 : Int32)).toNatClampNeg) (xs ((0 : Int32) + (2 : Int32)).toNatClampNeg) (xs ((0 : Int32) + (3 : Int32)).toNatClampNeg)
      exact lc_33 C1 hX hbl hi_1 rfl hi_2 rfl hi_3 rfl h8 h9 hc1 hc2 hP hD hS hl (fun H locs _ _ hS => law_back C0 hc1 hc2 hS hl)
    | 34, _ =>
      refine lv_tableIn (off := 1133) (tgt := 1166) hx hb dL_law_33 (by decide +kernel) (by decide +kernel) (by decide +kernel) (by decide) ?_
      obtain ⟨r, p0, p1, p2, p3, p4, p5, q0, h8, h9⟩ := pp_34 (xs ((0 : Int32) + (1 : Int32)).toNatClampNeg) (xs ((0 : Int32) + (2 : Int32)).toNatClampNeg) (xs ((0 : Int32) + (3 : Int32)).toNatClampNeg) (xs ((0 : Int32) + (4 : Int32)).toNatClampNeg)
      exact lc_34 C1 hX hbl hi_1 rfl hi_2 rfl hi_3 rfl hi_4 rfl h8 h9 hc1 hc2 hP hD hS hl (fun H locs _ _ hS => law_back C0 hc1 hc2 hS hl)
    | 35, _ =>
      refine lv_tableIn (off := 1206) (tgt := 1239) hx hb dL_law_33 (by decide +kernel) (by decide +kernel) (by decide +kernel) (by decide) ?_
      obtain ⟨r, h8, h9⟩ := pp_35 (xs ((0 : Int32) + (1 : Int32)).toNatClampNeg) (xs ((0 : Int32) + (2 : Int32)).toNatClampNeg)
      exact lc_35 C1 hX hbl hi_1 rfl hi_2 rfl h8 h9 hc1 hc2 hP hD hS hl (fun H locs _ _ hS => law_back C0 hc1 hc2 hS hl)
    | 36, _ =>
      refine lv_tableIn (off := 1240) (tgt := 1273) hx hb dL_law_33 (by decide +kernel) (by decide +kernel) (by decide +kernel) (by decide) ?_
      obtain ⟨r, p0, p1, p2, p3, p4, p5, q0, q1, h8, h9⟩ := pp_36 (xs ((0 : Int32) + (1 : Int32)).toNatClampNeg) (xs ((0 : Int32) + (2 : Int32)).toNatClampNeg) (xs ((0 : Int32) + (3 : Int32)).toNatClampNeg) (xs ((0 : Int32) + (4 : Int32)).toNatClampNeg) (xs ((0 : Int32) + (5 : Int32)).toNatClampNeg)
      exact lc_36 C1 hX hbl hi_1 rfl hi_2 rfl hi_3 rfl hi_4 rfl hi_5 rfl h8 h9 hc1 hc2 hP hD hS hl (fun H locs _ _ hS => law_back C0 hc1 hc2 hS hl)
    | 37, _ =>
      refine lv_tableIn (off := 1303) (tgt := 1336) hx hb dL_law_33 (by decide +kernel) (by decide +kernel) (by decide +kernel) (by decide) ?_
      obtain ⟨r, h8, h9⟩ := pp_37 (xs ((0 : Int32) + (1 : Int32)).toNatClampNeg) (xs ((0 : Int32) + (2 : Int32)).toNatClampNeg)
      exact lc_37 C1 hX hbl hi_1 rfl hi_2 rfl h8 h9 hc1 hc2 hP hD hS hl (fun H locs _ _ hS => law_back C0 hc1 hc2 hS hl)
    | 38, _ =>
      refine lv_tableIn (off := 1336) (tgt := 1369) hx hb dL_law_33 (by decide +kernel) (by decide +kernel) (by decide +kernel) (by decide) ?_
      obtain ⟨r, h8, h9⟩ := pp_38 (xs ((0 : Int32) + (1 : Int32)).toNatClampNeg)
      exact lc_38 C1 hX hbl hi_1 rfl h8 h9 hc1 hc2 hP hD hS hl (fun H locs _ _ hS => law_back C0 hc1 hc2 hS hl)
    | j + 39, h => exact absurd h (by omega)
set_option maxHeartbeats 8000000 in
set_option maxRecDepth 100000 in
theorem whole_start {p : Program} {e : Env} {s : State} {m : MethodId} {below : List Frame} {meth : Method} {c : Code} (l : Launch) (hflags : l.flags = flags0) {b L : Nat} {xs : Nat → Int32} (hL : L ≤ 6) (C0 : lw_At p s m meth c b L xs) : W p l e room_1 s m #[Value.ref b] below meth c s.heap [] 0 0 (lw_Z below #[Value.ref b] s) (entryFrame m ([Value.ref b] : List Value).toArray 4) := by
  obtain ⟨D, cI, cL, cS, cH, C1, hO1, hO2⟩ := mm_start C0
  obtain ⟨hx, hb, hr, hml, hown, hts, hX, hbl, hlocks, hgv⟩ := id C0
  have hA : ∀ q : Nat, s.heap.size ≤ q → (fun q : Nat => s.heap.size ≤ q) q := fun _ h => h
  have hbA : ¬ (fun q : Nat => s.heap.size ≤ q) b := Nat.not_le.mpr hbl
  have hS : va_S (fun q : Nat => s.heap.size ≤ q) s.heap s.heap [] := va_S.rf
  have hP : va_P D mm_cl [] s.heap := fun k q h => by simp at h
  have hD : va_D (fun q : Nat => s.heap.size ≤ q) [] := ⟨fun i j p q h => by simp at h, fun k q h => by simp at h⟩
  have hl := lv_entry ([.ref b]) (n := 4) (Nat.le_of_ble_eq_true rfl)
  rw [lg_entry_eq]
  generalize (lg_sl ([.ref b]) ++ List.replicate (4 - (lg_sl ([.ref b])).length) Slot.unset).toArray = ls at hl ⊢
  have hl : lv_has ls 4 [(0, .ref b)] := hl
  refine mm_newo (ci := 8) (fs := [.null, .null, .null, .null, .null, .null, .null, .null, .null, .int 0]) C1 hP hD hA hS iw_X8 tyX8 tyX8_ok kl_L_7 kn_X8 ki_X8 rfl (by decide) (Nat.le_of_ble_eq_true rfl) (Nat.le_of_ble_eq_true rfl) dL_law_0 (fun q1 H hP hD hS => ?_)
  refine lv_dup hx hb dL_law_3 rfl ?_
  refine mm_callK (rest := [.ref q1]) C1 hO1 hO2 li_L_9 (cnX8 (o := q1)) (by decide) hl.1 rfl (mm_cat rfl) dL_law_4 (Nat.le_of_ble_eq_true rfl) (Nat.le_of_ble_eq_true rfl) hP hD hA hS (fun a H locs ha0 hPn hDn hSn => ?_)
  clear hP hD hS
  subst ha0
  have hP : va_P D mm_cl (wn_X8 cI cL cS cH a) H := hPn
  have hD : va_D (fun q : Nat => s.heap.size ≤ q) (wn_X8 cI cL cS cH a) := hDn
  have hS := hSn
  refine lv_astore_n (lv' := [(1, .ref (a 0)), (0, .ref b)]) hx hb dL_law_7 rfl hl (by decide) rfl (fun ls hl => ?_)
  refine mm_newo (ci := 9) (fs := [.null, .null, .null, .int 0, .int 0, .int 0, .int 0, .null, .null, .null, .null, .null, .null, .null, .null, .int 0, .int 0, .null, .int 0, .null, .int 0, .int 0, .int 0, .int 0, .int 0, .int 0, .null, .null, .int 0, .int 0, .int 0, .null, .null, .null, .null, .null, .int 0, .int 0, .int 0, .int 0, .int 0, .null, .null, .int 0, .int 0, .int 0, .int 0, .null, .null, .int 0, .int 0, .int 0, .int 0, .int 0, .int 0, .int 0, .int 0, .int 0, .int 0, .int 0, .null, .null, .int 0, .int 0, .int 0, .null, .null, .null, .null]) C1 hP hD hA hS iw_X9 tyX9 tyX9_ok kl_L_10 kn_X9 ki_X9 rfl (by decide) (Nat.le_of_ble_eq_true rfl) (Nat.le_of_ble_eq_true rfl) dL_law_8 (fun q2 H hP hD hS => ?_)
  refine lv_dup hx hb dL_law_11 rfl ?_
  refine mm_callK (rest := [.ref q2]) C1 hO1 hO2 li_L_12 (cnX9 (o := q2)) (by decide) hl.1 rfl (mm_cat rfl) dL_law_12 (Nat.le_of_ble_eq_true rfl) (Nat.le_of_ble_eq_true rfl) hP hD hA hS (fun bm H locs ha0 hPn hDn hSn => ?_)
  clear hP hD hS
  subst ha0
  have hP := hPn
  have hD := hDn
  have hS := hSn
  refine lv_astore_n (lv' := [(2, .ref (bm 0)), (1, .ref (a 0)), (0, .ref b)]) hx hb dL_law_15 rfl hl (by decide) rfl (fun ls hl => ?_)
  refine lv_iconst (v := 0) hx hb dL_law_16 (by decide) ?_
  refine lv_istore_n (lv' := [(3, .int 0), (2, .ref (bm 0)), (1, .ref (a 0)), (0, .ref b)]) hx hb dL_law_17 rfl hl (by decide) rfl (fun ls hl => ?_)
  refine lv_iload_n hx hb dL_law_18 rfl (lv_at hl 0 rfl) ?_
  refine lv_aload_n hx hb dL_law_19 rfl (lv_at hl 3 rfl) ?_
  refine va_slen hx hb hX hbl hbA hS dL_law_20 ?_
  refine lv_bipush (v := 6) hx hb dL_law_21 (by decide) ?_
  refine lv_isub hx hb dL_law_23 ?_
  refine lv_icmp_gt (tgt := 1398) hx hb dL_law_24 (by decide) (fun _ => ?_) (fun c9 => ?_)
  · exact law_out C0 (Nat.le_of_ble_eq_true rfl) (Nat.le_of_ble_eq_true rfl) hS
  · obtain rfl := mm_L6 hL c9
    exact law_first C0 C1 (Nat.le_of_ble_eq_true rfl) (Nat.le_of_ble_eq_true rfl) hP hD hS (lv_sub hl [3, 2, 1, 0] rfl)
