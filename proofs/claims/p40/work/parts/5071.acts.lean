/-! acts of the class, kind by kind -/
theorem uf_X1_call (N : Nat) (go : Int32 → Int32 → Int32 → Int32 → Int32 → Int32 → Int32 → List Int32 → Option (Int32 × Int32 × List Int32)) (x1 : Int32) (x2 : Int32) (x3 : Int32) (x4 : Int32) (x5 : Int32) (v_ran : Int32) (v_number : Int32) (v_trace : List Int32) : fX1_call N go x1 x2 x3 x4 x5 v_ran v_number v_trace = fX1_call_6 N go N x1 x3 x4 x5 x2 (0 : Int32) v_ran v_number v_trace := rfl

theorem uf_X1_call_6 (N : Nat) (go : Int32 → Int32 → Int32 → Int32 → Int32 → Int32 → Int32 → List Int32 → Option (Int32 × Int32 × List Int32)) (n : Nat) (x1 : Int32) (x3 : Int32) (x4 : Int32) (x5 : Int32) (x6 : Int32) (x7 : Int32) (v_ran : Int32) (v_number : Int32) (v_trace : List Int32) : fX1_call_6 N go (n + 1) x1 x3 x4 x5 x6 x7 v_ran v_number v_trace = 
    if (8 : Int32) ≤ x7 then
    (some ((0 : Int32), v_ran, v_trace))
    else (if x6 < 0 then
    (some ((0 : Int32), v_ran, v_trace))
    else (mm_ck (mm_inb (((4 : Int32) * x6) + x3) mm_OWN.length) (if (mm_ig mm_OWN (((4 : Int32) * x6) + x3)) = 0 then
    (mm_ck (mm_inb x6 mm_ABOVE.length) (mm_nm ((mm_ig mm_ABOVE x6)) (fun (y_6 : Int32) =>
    mm_nm (x7 + (1 : Int32)) (fun (y_7 : Int32) =>
    fX1_call_6 N go n x1 x3 x4 x5 y_6 y_7 v_ran v_number v_trace))))
    else (if (40 : Int32) ≤ x5 then
    (some ((0 : Int32), v_ran, v_trace))
    else (mm_ck (mm_inb (((4 : Int32) * x6) + x3) mm_OWN.length) (mm_ck (mm_inb x6 mm_ABOVE.length) (mm_bd3 (go (mm_ig mm_OWN (((4 : Int32) * x6) + x3)) x1 (mm_ig mm_ABOVE x6) x4 (x5 + (1 : Int32)) v_ran v_number v_trace) (fun (r_11 : Int32) (w_12 : Int32) (w_13 : List Int32) =>
    some (r_11, w_12, w_13))))))))) := rfl

theorem uf_X1_note (N : Nat) (x1 : Int32) (v_ran : Int32) (v_trace : List Int32) : fX1_note N x1 v_ran v_trace = if (24 : Int32) ≤ v_ran then
    (fX1_note_19 N v_ran v_trace)
    else (mm_ck (mm_inb v_ran v_trace.length) (mm_nm (mm_is v_trace v_ran x1) (fun (l_3 : List Int32) =>
    fX1_note_19 N v_ran l_3))) := rfl

theorem uf_X1_note_19 (N : Nat) (v_ran : Int32) (v_trace : List Int32) : fX1_note_19 N v_ran v_trace = mm_nm ((v_ran + (1 : Int32))) (fun (y_4 : Int32) =>
    some (y_4, v_trace)) := rfl

theorem uf_X1_run (N : Nat) (M : Nat) (z0 : Int32) (z1 : Int32) (z2 : Int32) (z3 : Int32) (z4 : Int32) (z5 : Int32) (z6 : Int32) (z7 : List Int32) : fX1_run N (M + 1) z0 z1 z2 z3 z4 z5 z6 z7 = (fX1_runo N (fX1_run N M)) z0 z1 z2 z3 z4 z5 z6 z7 := rfl

theorem uf_X1_runo (N : Nat) (go : Int32 → Int32 → Int32 → Int32 → Int32 → Int32 → Int32 → List Int32 → Option (Int32 × Int32 × List Int32)) (x1 : Int32) (x2 : Int32) (x3 : Int32) (x4 : Int32) (x5 : Int32) (v_ran : Int32) (v_number : Int32) (v_trace : List Int32) : fX1_runo N go x1 x2 x3 x4 x5 v_ran v_number v_trace = mm_bd2 (fX1_note N x1 v_ran v_trace) (fun (w_1 : Int32) (w_2 : List Int32) =>
    if x1 = (1 : Int32) then
    (some ((x4 + v_number), w_1, w_2))
    else (if x1 = (2 : Int32) then
    (mm_bd3 (fX1_call N go x2 x2 (1 : Int32) x4 x5 w_1 v_number w_2) (fun (r_6 : Int32) (w_7 : Int32) (w_8 : List Int32) =>
    mm_bd3 (fX1_call N go x2 x2 (2 : Int32) (1 : Int32) x5 w_7 v_number w_8) (fun (r_10 : Int32) (w_11 : Int32) (w_12 : List Int32) =>
    some ((r_6 - r_10), w_11, w_12))))
    else (if x1 = (10 : Int32) then
    (mm_bd3 (fX1_call N go x2 x2 (0 : Int32) x4 x5 w_1 v_number w_2) (fun (r_15 : Int32) (w_16 : Int32) (w_17 : List Int32) =>
    some ((r_15 * (2 : Int32)), w_16, w_17)))
    else (if x1 = (11 : Int32) then
    (some ((x4 ^^^ v_number), w_1, w_2))
    else (if x1 = (20 : Int32) then
    (mm_bd3 (fX1_call N go x2 x3 (0 : Int32) x4 x5 w_1 v_number w_2) (fun (r_21 : Int32) (w_22 : Int32) (w_23 : List Int32) =>
    some ((r_21 + (3 : Int32)), w_22, w_23)))
    else (if x1 = (30 : Int32) then
    (mm_bd3 (fX1_call N go x2 x3 (1 : Int32) x4 x5 w_1 v_number w_2) (fun (r_26 : Int32) (w_27 : Int32) (w_28 : List Int32) =>
    some ((-r_26), w_27, w_28)))
    else (if x1 = (40 : Int32) then
    (mm_bd3 (fX1_call N go x2 x3 (2 : Int32) x4 x5 w_1 v_number w_2) (fun (r_31 : Int32) (w_32 : Int32) (w_33 : List Int32) =>
    some ((r_31 * (3 : Int32)), w_32, w_33)))
    else (if x1 = (41 : Int32) then
    (mm_bd3 (fX1_call N go x2 x3 (1 : Int32) (x4 + (1 : Int32)) x5 w_1 v_number w_2) (fun (r_36 : Int32) (w_37 : Int32) (w_38 : List Int32) =>
    some (r_36, w_37, w_38)))
    else (if x1 = (50 : Int32) then
    (mm_bd3 (fX1_call N go x2 x3 (2 : Int32) x4 x5 w_1 v_number w_2) (fun (r_41 : Int32) (w_42 : Int32) (w_43 : List Int32) =>
    mm_bd3 (fX1_call N go x2 x2 (0 : Int32) (2 : Int32) x5 w_42 v_number w_43) (fun (r_45 : Int32) (w_46 : Int32) (w_47 : List Int32) =>
    some ((r_41 - r_45), w_46, w_47))))
    else (if x1 = (60 : Int32) then
    (mm_bd3 (fX1_call N go x2 x3 (3 : Int32) x4 x5 w_1 v_number w_2) (fun (r_50 : Int32) (w_51 : Int32) (w_52 : List Int32) =>
    some ((r_50 ^^^ (5 : Int32)), w_51, w_52)))
    else (if x1 = (70 : Int32) then
    (mm_bd3 (fX1_call N go x2 x3 (0 : Int32) x4 x5 w_1 v_number w_2) (fun (r_55 : Int32) (w_56 : Int32) (w_57 : List Int32) =>
    some ((r_55 * (2 : Int32)), w_56, w_57)))
    else (if x1 = (80 : Int32) then
    (mm_bd3 (fX1_call N go x2 x3 (1 : Int32) x4 x5 w_1 v_number w_2) (fun (r_60 : Int32) (w_61 : Int32) (w_62 : List Int32) =>
    mm_bd3 (fX1_call N go x2 x2 (2 : Int32) (2 : Int32) x5 w_61 v_number w_62) (fun (r_64 : Int32) (w_65 : Int32) (w_66 : List Int32) =>
    some ((r_60 + r_64), w_65, w_66))))
    else (if x1 = (81 : Int32) then
    (mm_bd3 (fX1_call N go x2 x3 (3 : Int32) x4 x5 w_1 v_number w_2) (fun (r_69 : Int32) (w_70 : Int32) (w_71 : List Int32) =>
    some ((r_69 - (1 : Int32)), w_70, w_71)))
    else (some ((0 : Int32), w_1, w_2))))))))))))))) := rfl

set_option maxRecDepth 20000 in
theorem ac8_0_0 (x b : Int32) (tr : List Int32) (hl : tr.length = 24) : wp (fX1_call 700 (fX1_run 700 42) (0 : Int32) (0 : Int32) (0 : Int32) x (0 : Int32) (0 : Int32) b tr) (cu3 (fun r0 r1 r2 => r0 = (x + b) ∧ r1 = ((0 : Int32) + (1 : Int32)) ∧ r2 = (mm_is tr (0 : Int32) (mm_ig mm_OWN (((4 : Int32) * (0 : Int32)) + (0 : Int32)))))) := by
  refine wp_of (uf_X1_call _ _ _ _ _ _ _ _ _ _) ?_
  refine wp_of (uf_X1_call_6 _ _ _ _ _ _ _ _ _ _ _ _) ?_
  refine wp_ifn (by decide) ?_
  refine wp_ifn (by decide) ?_
  refine wp_ck (by decide) ?_
  refine wp_ifn (by decide) ?_
  refine wp_ifn (by decide) ?_
  refine wp_ck (by decide) ?_
  refine wp_ck (by decide) ?_
  refine wp_in3 ?_
  refine wp_of (uf_X1_run _ _ _ _ _ _ _ _ _ _) ?_
  refine wp_of (uf_X1_runo _ _ _ _ _ _ _ _ _ _) ?_
  refine wp_in2 ?_
  refine wp_of (uf_X1_note _ _ _ _) ?_
  refine wp_ifn (by decide) ?_
  refine wp_ck (i_inb (by decide) (by rw [show ((0 : Int32)).toInt = 0 from by decide]; (try simp only [is_len]); omega)) ?_
  refine wp_nm (fun y1 h1 => ?_)
  subst h1
  refine wp_of (uf_X1_note_19 _ _ _) ?_
  refine wp_nm (fun y2 h2 => ?_)
  subst h2
  refine wp_so2 ?_
  show wp _ _
  refine wp_ifp (by decide) ?_
  refine wp_so3 ?_
  show wp _ _
  exact wp_so3 ⟨rfl, rfl, rfl⟩

set_option maxRecDepth 20000 in
theorem ac8_0_1 (x b : Int32) (tr : List Int32) (hl : tr.length = 24) : wp (fX1_call 700 (fX1_run 700 42) (0 : Int32) (0 : Int32) (1 : Int32) x (0 : Int32) (0 : Int32) b tr) (cu3 (fun r0 r1 r2 => r0 = ((x + b) * (2 : Int32)) ∧ r1 = (((0 : Int32) + (1 : Int32)) + (1 : Int32)) ∧ r2 = (mm_is (mm_is tr (0 : Int32) (mm_ig mm_OWN (((4 : Int32) * (0 : Int32)) + (1 : Int32)))) ((0 : Int32) + (1 : Int32)) (mm_ig mm_OWN (((4 : Int32) * (0 : Int32)) + (0 : Int32)))))) := by
  refine wp_of (uf_X1_call _ _ _ _ _ _ _ _ _ _) ?_
  refine wp_of (uf_X1_call_6 _ _ _ _ _ _ _ _ _ _ _ _) ?_
  refine wp_ifn (by decide) ?_
  refine wp_ifn (by decide) ?_
  refine wp_ck (by decide) ?_
  refine wp_ifn (by decide) ?_
  refine wp_ifn (by decide) ?_
  refine wp_ck (by decide) ?_
  refine wp_ck (by decide) ?_
  refine wp_in3 ?_
  refine wp_of (uf_X1_run _ _ _ _ _ _ _ _ _ _) ?_
  refine wp_of (uf_X1_runo _ _ _ _ _ _ _ _ _ _) ?_
  refine wp_in2 ?_
  refine wp_of (uf_X1_note _ _ _ _) ?_
  refine wp_ifn (by decide) ?_
  refine wp_ck (i_inb (by decide) (by rw [show ((0 : Int32)).toInt = 0 from by decide]; (try simp only [is_len]); omega)) ?_
  refine wp_nm (fun y1 h1 => ?_)
  subst h1
  refine wp_of (uf_X1_note_19 _ _ _) ?_
  refine wp_nm (fun y2 h2 => ?_)
  subst h2
  refine wp_so2 ?_
  show wp _ _
  refine wp_ifn (by decide) ?_
  refine wp_ifn (by decide) ?_
  refine wp_ifp (by decide) ?_
  refine wp_in3 ?_
  refine wp_of (uf_X1_call _ _ _ _ _ _ _ _ _ _) ?_
  refine wp_of (uf_X1_call_6 _ _ _ _ _ _ _ _ _ _ _ _) ?_
  refine wp_ifn (by decide) ?_
  refine wp_ifn (by decide) ?_
  refine wp_ck (by decide) ?_
  refine wp_ifn (by decide) ?_
  refine wp_ifn (by decide) ?_
  refine wp_ck (by decide) ?_
  refine wp_ck (by decide) ?_
  refine wp_in3 ?_
  refine wp_of (uf_X1_run _ _ _ _ _ _ _ _ _ _) ?_
  refine wp_of (uf_X1_runo _ _ _ _ _ _ _ _ _ _) ?_
  refine wp_in2 ?_
  refine wp_of (uf_X1_note _ _ _ _) ?_
  refine wp_ifn (by decide) ?_
  refine wp_ck (i_inb (by decide) (by rw [show (((0 : Int32) + (1 : Int32))).toInt = 1 from by decide]; (try simp only [is_len]); omega)) ?_
  refine wp_nm (fun y3 h3 => ?_)
  subst h3
  refine wp_of (uf_X1_note_19 _ _ _) ?_
  refine wp_nm (fun y4 h4 => ?_)
  subst h4
  refine wp_so2 ?_
  show wp _ _
  refine wp_ifp (by decide) ?_
  refine wp_so3 ?_
  show wp _ _
  refine wp_so3 ?_
  show wp _ _
  refine wp_so3 ?_
  show wp _ _
  exact wp_so3 ⟨rfl, rfl, rfl⟩

set_option maxRecDepth 20000 in
theorem ac8_0_2 (x b : Int32) (tr : List Int32) (hl : tr.length = 24) : wp (fX1_call 700 (fX1_run 700 42) (0 : Int32) (0 : Int32) (2 : Int32) x (0 : Int32) (0 : Int32) b tr) (cu3 (fun r0 r1 r2 => r0 = (x ^^^ b) ∧ r1 = ((0 : Int32) + (1 : Int32)) ∧ r2 = (mm_is tr (0 : Int32) (mm_ig mm_OWN (((4 : Int32) * (0 : Int32)) + (2 : Int32)))))) := by
  refine wp_of (uf_X1_call _ _ _ _ _ _ _ _ _ _) ?_
  refine wp_of (uf_X1_call_6 _ _ _ _ _ _ _ _ _ _ _ _) ?_
  refine wp_ifn (by decide) ?_
  refine wp_ifn (by decide) ?_
  refine wp_ck (by decide) ?_
  refine wp_ifn (by decide) ?_
  refine wp_ifn (by decide) ?_
  refine wp_ck (by decide) ?_
  refine wp_ck (by decide) ?_
  refine wp_in3 ?_
  refine wp_of (uf_X1_run _ _ _ _ _ _ _ _ _ _) ?_
  refine wp_of (uf_X1_runo _ _ _ _ _ _ _ _ _ _) ?_
  refine wp_in2 ?_
  refine wp_of (uf_X1_note _ _ _ _) ?_
  refine wp_ifn (by decide) ?_
  refine wp_ck (i_inb (by decide) (by rw [show ((0 : Int32)).toInt = 0 from by decide]; (try simp only [is_len]); omega)) ?_
  refine wp_nm (fun y1 h1 => ?_)
  subst h1
  refine wp_of (uf_X1_note_19 _ _ _) ?_
  refine wp_nm (fun y2 h2 => ?_)
  subst h2
  refine wp_so2 ?_
  show wp _ _
  refine wp_ifn (by decide) ?_
  refine wp_ifn (by decide) ?_
  refine wp_ifn (by decide) ?_
  refine wp_ifp (by decide) ?_
  refine wp_so3 ?_
  show wp _ _
  exact wp_so3 ⟨rfl, rfl, rfl⟩

set_option maxRecDepth 20000 in
theorem ac8_0_3 (x b : Int32) (tr : List Int32) (hl : tr.length = 24) : wp (fX1_call 700 (fX1_run 700 42) (0 : Int32) (0 : Int32) (3 : Int32) x (0 : Int32) (0 : Int32) b tr) (cu3 (fun r0 r1 r2 => r0 = (((x + b) * (2 : Int32)) - ((1 : Int32) ^^^ b)) ∧ r1 = (((((0 : Int32) + (1 : Int32)) + (1 : Int32)) + (1 : Int32)) + (1 : Int32)) ∧ r2 = (mm_is (mm_is (mm_is (mm_is tr (0 : Int32) (mm_ig mm_OWN (((4 : Int32) * (0 : Int32)) + (3 : Int32)))) ((0 : Int32) + (1 : Int32)) (mm_ig mm_OWN (((4 : Int32) * (0 : Int32)) + (1 : Int32)))) (((0 : Int32) + (1 : Int32)) + (1 : Int32)) (mm_ig mm_OWN (((4 : Int32) * (0 : Int32)) + (0 : Int32)))) ((((0 : Int32) + (1 : Int32)) + (1 : Int32)) + (1 : Int32)) (mm_ig mm_OWN (((4 : Int32) * (0 : Int32)) + (2 : Int32)))))) := by
  refine wp_of (uf_X1_call _ _ _ _ _ _ _ _ _ _) ?_
  refine wp_of (uf_X1_call_6 _ _ _ _ _ _ _ _ _ _ _ _) ?_
  refine wp_ifn (by decide) ?_
  refine wp_ifn (by decide) ?_
  refine wp_ck (by decide) ?_
  refine wp_ifn (by decide) ?_
  refine wp_ifn (by decide) ?_
  refine wp_ck (by decide) ?_
  refine wp_ck (by decide) ?_
  refine wp_in3 ?_
  refine wp_of (uf_X1_run _ _ _ _ _ _ _ _ _ _) ?_
  refine wp_of (uf_X1_runo _ _ _ _ _ _ _ _ _ _) ?_
  refine wp_in2 ?_
  refine wp_of (uf_X1_note _ _ _ _) ?_
  refine wp_ifn (by decide) ?_
  refine wp_ck (i_inb (by decide) (by rw [show ((0 : Int32)).toInt = 0 from by decide]; (try simp only [is_len]); omega)) ?_
  refine wp_nm (fun y1 h1 => ?_)
  subst h1
  refine wp_of (uf_X1_note_19 _ _ _) ?_
  refine wp_nm (fun y2 h2 => ?_)
  subst h2
  refine wp_so2 ?_
  show wp _ _
  refine wp_ifn (by decide) ?_
  refine wp_ifp (by decide) ?_
  refine wp_in3 ?_
  refine wp_of (uf_X1_call _ _ _ _ _ _ _ _ _ _) ?_
  refine wp_of (uf_X1_call_6 _ _ _ _ _ _ _ _ _ _ _ _) ?_
  refine wp_ifn (by decide) ?_
  refine wp_ifn (by decide) ?_
  refine wp_ck (by decide) ?_
  refine wp_ifn (by decide) ?_
  refine wp_ifn (by decide) ?_
  refine wp_ck (by decide) ?_
  refine wp_ck (by decide) ?_
  refine wp_in3 ?_
  refine wp_of (uf_X1_run _ _ _ _ _ _ _ _ _ _) ?_
  refine wp_of (uf_X1_runo _ _ _ _ _ _ _ _ _ _) ?_
  refine wp_in2 ?_
  refine wp_of (uf_X1_note _ _ _ _) ?_
  refine wp_ifn (by decide) ?_
  refine wp_ck (i_inb (by decide) (by rw [show (((0 : Int32) + (1 : Int32))).toInt = 1 from by decide]; (try simp only [is_len]); omega)) ?_
  refine wp_nm (fun y3 h3 => ?_)
  subst h3
  refine wp_of (uf_X1_note_19 _ _ _) ?_
  refine wp_nm (fun y4 h4 => ?_)
  subst h4
  refine wp_so2 ?_
  show wp _ _
  refine wp_ifn (by decide) ?_
  refine wp_ifn (by decide) ?_
  refine wp_ifp (by decide) ?_
  refine wp_in3 ?_
  refine wp_of (uf_X1_call _ _ _ _ _ _ _ _ _ _) ?_
  refine wp_of (uf_X1_call_6 _ _ _ _ _ _ _ _ _ _ _ _) ?_
  refine wp_ifn (by decide) ?_
  refine wp_ifn (by decide) ?_
  refine wp_ck (by decide) ?_
  refine wp_ifn (by decide) ?_
  refine wp_ifn (by decide) ?_
  refine wp_ck (by decide) ?_
  refine wp_ck (by decide) ?_
  refine wp_in3 ?_
  refine wp_of (uf_X1_run _ _ _ _ _ _ _ _ _ _) ?_
  refine wp_of (uf_X1_runo _ _ _ _ _ _ _ _ _ _) ?_
  refine wp_in2 ?_
  refine wp_of (uf_X1_note _ _ _ _) ?_
  refine wp_ifn (by decide) ?_
  refine wp_ck (i_inb (by decide) (by rw [show ((((0 : Int32) + (1 : Int32)) + (1 : Int32))).toInt = 2 from by decide]; (try simp only [is_len]); omega)) ?_
  refine wp_nm (fun y5 h5 => ?_)
  subst h5
  refine wp_of (uf_X1_note_19 _ _ _) ?_
  refine wp_nm (fun y6 h6 => ?_)
  subst h6
  refine wp_so2 ?_
  show wp _ _
  refine wp_ifp (by decide) ?_
  refine wp_so3 ?_
  show wp _ _
  refine wp_so3 ?_
  show wp _ _
  refine wp_so3 ?_
  show wp _ _
  refine wp_so3 ?_
  show wp _ _
  refine wp_in3 ?_
  refine wp_of (uf_X1_call _ _ _ _ _ _ _ _ _ _) ?_
  refine wp_of (uf_X1_call_6 _ _ _ _ _ _ _ _ _ _ _ _) ?_
  refine wp_ifn (by decide) ?_
  refine wp_ifn (by decide) ?_
  refine wp_ck (by decide) ?_
  refine wp_ifn (by decide) ?_
  refine wp_ifn (by decide) ?_
  refine wp_ck (by decide) ?_
  refine wp_ck (by decide) ?_
  refine wp_in3 ?_
  refine wp_of (uf_X1_run _ _ _ _ _ _ _ _ _ _) ?_
  refine wp_of (uf_X1_runo _ _ _ _ _ _ _ _ _ _) ?_
  refine wp_in2 ?_
  refine wp_of (uf_X1_note _ _ _ _) ?_
  refine wp_ifn (by decide) ?_
  refine wp_ck (i_inb (by decide) (by rw [show (((((0 : Int32) + (1 : Int32)) + (1 : Int32)) + (1 : Int32))).toInt = 3 from by decide]; (try simp only [is_len]); omega)) ?_
  refine wp_nm (fun y7 h7 => ?_)
  subst h7
  refine wp_of (uf_X1_note_19 _ _ _) ?_
  refine wp_nm (fun y8 h8 => ?_)
  subst h8
  refine wp_so2 ?_
  show wp _ _
  refine wp_ifn (by decide) ?_
  refine wp_ifn (by decide) ?_
  refine wp_ifn (by decide) ?_
  refine wp_ifp (by decide) ?_
  refine wp_so3 ?_
  show wp _ _
  refine wp_so3 ?_
  show wp _ _
  refine wp_so3 ?_
  show wp _ _
  exact wp_so3 ⟨rfl, rfl, rfl⟩

set_option maxRecDepth 20000 in
theorem ac8_1_0 (x b : Int32) (tr : List Int32) (hl : tr.length = 24) : wp (fX1_call 700 (fX1_run 700 42) (1 : Int32) (1 : Int32) (0 : Int32) x (0 : Int32) (0 : Int32) b tr) (cu3 (fun r0 r1 r2 => r0 = ((x + b) + (3 : Int32)) ∧ r1 = (((0 : Int32) + (1 : Int32)) + (1 : Int32)) ∧ r2 = (mm_is (mm_is tr (0 : Int32) (mm_ig mm_OWN (((4 : Int32) * (1 : Int32)) + (0 : Int32)))) ((0 : Int32) + (1 : Int32)) (mm_ig mm_OWN (((4 : Int32) * (mm_ig mm_ABOVE (1 : Int32))) + (0 : Int32)))))) := by
  refine wp_of (uf_X1_call _ _ _ _ _ _ _ _ _ _) ?_
  refine wp_of (uf_X1_call_6 _ _ _ _ _ _ _ _ _ _ _ _) ?_
  refine wp_ifn (by decide) ?_
  refine wp_ifn (by decide) ?_
  refine wp_ck (by decide) ?_
  refine wp_ifn (by decide) ?_
  refine wp_ifn (by decide) ?_
  refine wp_ck (by decide) ?_
  refine wp_ck (by decide) ?_
  refine wp_in3 ?_
  refine wp_of (uf_X1_run _ _ _ _ _ _ _ _ _ _) ?_
  refine wp_of (uf_X1_runo _ _ _ _ _ _ _ _ _ _) ?_
  refine wp_in2 ?_
  refine wp_of (uf_X1_note _ _ _ _) ?_
  refine wp_ifn (by decide) ?_
  refine wp_ck (i_inb (by decide) (by rw [show ((0 : Int32)).toInt = 0 from by decide]; (try simp only [is_len]); omega)) ?_
  refine wp_nm (fun y1 h1 => ?_)
  subst h1
  refine wp_of (uf_X1_note_19 _ _ _) ?_
  refine wp_nm (fun y2 h2 => ?_)
  subst h2
  refine wp_so2 ?_
  show wp _ _
  refine wp_ifn (by decide) ?_
  refine wp_ifn (by decide) ?_
  refine wp_ifn (by decide) ?_
  refine wp_ifn (by decide) ?_
  refine wp_ifp (by decide) ?_
  refine wp_in3 ?_
  refine wp_of (uf_X1_call _ _ _ _ _ _ _ _ _ _) ?_
  refine wp_of (uf_X1_call_6 _ _ _ _ _ _ _ _ _ _ _ _) ?_
  refine wp_ifn (by decide) ?_
  refine wp_ifn (by decide) ?_
  refine wp_ck (by decide) ?_
  refine wp_ifn (by decide) ?_
  refine wp_ifn (by decide) ?_
  refine wp_ck (by decide) ?_
  refine wp_ck (by decide) ?_
  refine wp_in3 ?_
  refine wp_of (uf_X1_run _ _ _ _ _ _ _ _ _ _) ?_
  refine wp_of (uf_X1_runo _ _ _ _ _ _ _ _ _ _) ?_
  refine wp_in2 ?_
  refine wp_of (uf_X1_note _ _ _ _) ?_
  refine wp_ifn (by decide) ?_
  refine wp_ck (i_inb (by decide) (by rw [show (((0 : Int32) + (1 : Int32))).toInt = 1 from by decide]; (try simp only [is_len]); omega)) ?_
  refine wp_nm (fun y3 h3 => ?_)
  subst h3
  refine wp_of (uf_X1_note_19 _ _ _) ?_
  refine wp_nm (fun y4 h4 => ?_)
  subst h4
  refine wp_so2 ?_
  show wp _ _
  refine wp_ifp (by decide) ?_
  refine wp_so3 ?_
  show wp _ _
  refine wp_so3 ?_
  show wp _ _
  refine wp_so3 ?_
  show wp _ _
  exact wp_so3 ⟨rfl, rfl, rfl⟩

set_option maxRecDepth 20000 in
theorem ac8_1_1 (x b : Int32) (tr : List Int32) (hl : tr.length = 24) : wp (fX1_call 700 (fX1_run 700 42) (1 : Int32) (1 : Int32) (1 : Int32) x (0 : Int32) (0 : Int32) b tr) (cu3 (fun r0 r1 r2 => r0 = (((x + b) + (3 : Int32)) * (2 : Int32)) ∧ r1 = ((((0 : Int32) + (1 : Int32)) + (1 : Int32)) + (1 : Int32)) ∧ r2 = (mm_is (mm_is (mm_is tr (0 : Int32) (mm_ig mm_OWN (((4 : Int32) * (mm_ig mm_ABOVE (1 : Int32))) + (1 : Int32)))) ((0 : Int32) + (1 : Int32)) (mm_ig mm_OWN (((4 : Int32) * (1 : Int32)) + (0 : Int32)))) (((0 : Int32) + (1 : Int32)) + (1 : Int32)) (mm_ig mm_OWN (((4 : Int32) * (mm_ig mm_ABOVE (1 : Int32))) + (0 : Int32)))))) := by
  refine wp_of (uf_X1_call _ _ _ _ _ _ _ _ _ _) ?_
  refine wp_of (uf_X1_call_6 _ _ _ _ _ _ _ _ _ _ _ _) ?_
  refine wp_ifn (by decide) ?_
  refine wp_ifn (by decide) ?_
  refine wp_ck (by decide) ?_
  refine wp_ifp (by decide) ?_
  refine wp_ck (by decide) ?_
  refine wp_nm (fun y1 h1 => ?_)
  subst h1
  refine wp_nm (fun y2 h2 => ?_)
  subst h2
  refine wp_of (uf_X1_call_6 _ _ _ _ _ _ _ _ _ _ _ _) ?_
  refine wp_ifn (by decide) ?_
  refine wp_ifn (by decide) ?_
  refine wp_ck (by decide) ?_
  refine wp_ifn (by decide) ?_
  refine wp_ifn (by decide) ?_
  refine wp_ck (by decide) ?_
  refine wp_ck (by decide) ?_
  refine wp_in3 ?_
  refine wp_of (uf_X1_run _ _ _ _ _ _ _ _ _ _) ?_
  refine wp_of (uf_X1_runo _ _ _ _ _ _ _ _ _ _) ?_
  refine wp_in2 ?_
  refine wp_of (uf_X1_note _ _ _ _) ?_
  refine wp_ifn (by decide) ?_
  refine wp_ck (i_inb (by decide) (by rw [show ((0 : Int32)).toInt = 0 from by decide]; (try simp only [is_len]); omega)) ?_
  refine wp_nm (fun y3 h3 => ?_)
  subst h3
  refine wp_of (uf_X1_note_19 _ _ _) ?_
  refine wp_nm (fun y4 h4 => ?_)
  subst h4
  refine wp_so2 ?_
  show wp _ _
  refine wp_ifn (by decide) ?_
  refine wp_ifn (by decide) ?_
  refine wp_ifp (by decide) ?_
  refine wp_in3 ?_
  refine wp_of (uf_X1_call _ _ _ _ _ _ _ _ _ _) ?_
  refine wp_of (uf_X1_call_6 _ _ _ _ _ _ _ _ _ _ _ _) ?_
  refine wp_ifn (by decide) ?_
  refine wp_ifn (by decide) ?_
  refine wp_ck (by decide) ?_
  refine wp_ifn (by decide) ?_
  refine wp_ifn (by decide) ?_
  refine wp_ck (by decide) ?_
  refine wp_ck (by decide) ?_
  refine wp_in3 ?_
  refine wp_of (uf_X1_run _ _ _ _ _ _ _ _ _ _) ?_
  refine wp_of (uf_X1_runo _ _ _ _ _ _ _ _ _ _) ?_
  refine wp_in2 ?_
  refine wp_of (uf_X1_note _ _ _ _) ?_
  refine wp_ifn (by decide) ?_
  refine wp_ck (i_inb (by decide) (by rw [show (((0 : Int32) + (1 : Int32))).toInt = 1 from by decide]; (try simp only [is_len]); omega)) ?_
  refine wp_nm (fun y5 h5 => ?_)
  subst h5
  refine wp_of (uf_X1_note_19 _ _ _) ?_
  refine wp_nm (fun y6 h6 => ?_)
  subst h6
  refine wp_so2 ?_
  show wp _ _
  refine wp_ifn (by decide) ?_
  refine wp_ifn (by decide) ?_
  refine wp_ifn (by decide) ?_
  refine wp_ifn (by decide) ?_
  refine wp_ifp (by decide) ?_
  refine wp_in3 ?_
  refine wp_of (uf_X1_call _ _ _ _ _ _ _ _ _ _) ?_
  refine wp_of (uf_X1_call_6 _ _ _ _ _ _ _ _ _ _ _ _) ?_
  refine wp_ifn (by decide) ?_
  refine wp_ifn (by decide) ?_
  refine wp_ck (by decide) ?_
  refine wp_ifn (by decide) ?_
  refine wp_ifn (by decide) ?_
  refine wp_ck (by decide) ?_
  refine wp_ck (by decide) ?_
  refine wp_in3 ?_
  refine wp_of (uf_X1_run _ _ _ _ _ _ _ _ _ _) ?_
  refine wp_of (uf_X1_runo _ _ _ _ _ _ _ _ _ _) ?_
  refine wp_in2 ?_
  refine wp_of (uf_X1_note _ _ _ _) ?_
  refine wp_ifn (by decide) ?_
  refine wp_ck (i_inb (by decide) (by rw [show ((((0 : Int32) + (1 : Int32)) + (1 : Int32))).toInt = 2 from by decide]; (try simp only [is_len]); omega)) ?_
  refine wp_nm (fun y7 h7 => ?_)
  subst h7
  refine wp_of (uf_X1_note_19 _ _ _) ?_
  refine wp_nm (fun y8 h8 => ?_)
  subst h8
  refine wp_so2 ?_
  show wp _ _
  refine wp_ifp (by decide) ?_
  refine wp_so3 ?_
  show wp _ _
  refine wp_so3 ?_
  show wp _ _
  refine wp_so3 ?_
  show wp _ _
  refine wp_so3 ?_
  show wp _ _
  refine wp_so3 ?_
  show wp _ _
  exact wp_so3 ⟨rfl, rfl, rfl⟩

set_option maxRecDepth 20000 in
theorem ac8_1_2 (x b : Int32) (tr : List Int32) (hl : tr.length = 24) : wp (fX1_call 700 (fX1_run 700 42) (1 : Int32) (1 : Int32) (2 : Int32) x (0 : Int32) (0 : Int32) b tr) (cu3 (fun r0 r1 r2 => r0 = (x ^^^ b) ∧ r1 = ((0 : Int32) + (1 : Int32)) ∧ r2 = (mm_is tr (0 : Int32) (mm_ig mm_OWN (((4 : Int32) * (mm_ig mm_ABOVE (1 : Int32))) + (2 : Int32)))))) := by
  refine wp_of (uf_X1_call _ _ _ _ _ _ _ _ _ _) ?_
  refine wp_of (uf_X1_call_6 _ _ _ _ _ _ _ _ _ _ _ _) ?_
  refine wp_ifn (by decide) ?_
  refine wp_ifn (by decide) ?_
  refine wp_ck (by decide) ?_
  refine wp_ifp (by decide) ?_
  refine wp_ck (by decide) ?_
  refine wp_nm (fun y1 h1 => ?_)
  subst h1
  refine wp_nm (fun y2 h2 => ?_)
  subst h2
  refine wp_of (uf_X1_call_6 _ _ _ _ _ _ _ _ _ _ _ _) ?_
  refine wp_ifn (by decide) ?_
  refine wp_ifn (by decide) ?_
  refine wp_ck (by decide) ?_
  refine wp_ifn (by decide) ?_
  refine wp_ifn (by decide) ?_
  refine wp_ck (by decide) ?_
  refine wp_ck (by decide) ?_
  refine wp_in3 ?_
  refine wp_of (uf_X1_run _ _ _ _ _ _ _ _ _ _) ?_
  refine wp_of (uf_X1_runo _ _ _ _ _ _ _ _ _ _) ?_
  refine wp_in2 ?_
  refine wp_of (uf_X1_note _ _ _ _) ?_
  refine wp_ifn (by decide) ?_
  refine wp_ck (i_inb (by decide) (by rw [show ((0 : Int32)).toInt = 0 from by decide]; (try simp only [is_len]); omega)) ?_
  refine wp_nm (fun y3 h3 => ?_)
  subst h3
  refine wp_of (uf_X1_note_19 _ _ _) ?_
  refine wp_nm (fun y4 h4 => ?_)
  subst h4
  refine wp_so2 ?_
  show wp _ _
  refine wp_ifn (by decide) ?_
  refine wp_ifn (by decide) ?_
  refine wp_ifn (by decide) ?_
  refine wp_ifp (by decide) ?_
  refine wp_so3 ?_
  show wp _ _
  exact wp_so3 ⟨rfl, rfl, rfl⟩

set_option maxRecDepth 20000 in
theorem ac8_1_3 (x b : Int32) (tr : List Int32) (hl : tr.length = 24) : wp (fX1_call 700 (fX1_run 700 42) (1 : Int32) (1 : Int32) (3 : Int32) x (0 : Int32) (0 : Int32) b tr) (cu3 (fun r0 r1 r2 => r0 = ((((x + b) + (3 : Int32)) * (2 : Int32)) - ((1 : Int32) ^^^ b)) ∧ r1 = ((((((0 : Int32) + (1 : Int32)) + (1 : Int32)) + (1 : Int32)) + (1 : Int32)) + (1 : Int32)) ∧ r2 = (mm_is (mm_is (mm_is (mm_is (mm_is tr (0 : Int32) (mm_ig mm_OWN (((4 : Int32) * (mm_ig mm_ABOVE (1 : Int32))) + (3 : Int32)))) ((0 : Int32) + (1 : Int32)) (mm_ig mm_OWN (((4 : Int32) * (mm_ig mm_ABOVE (1 : Int32))) + (1 : Int32)))) (((0 : Int32) + (1 : Int32)) + (1 : Int32)) (mm_ig mm_OWN (((4 : Int32) * (1 : Int32)) + (0 : Int32)))) ((((0 : Int32) + (1 : Int32)) + (1 : Int32)) + (1 : Int32)) (mm_ig mm_OWN (((4 : Int32) * (mm_ig mm_ABOVE (1 : Int32))) + (0 : Int32)))) (((((0 : Int32) + (1 : Int32)) + (1 : Int32)) + (1 : Int32)) + (1 : Int32)) (mm_ig mm_OWN (((4 : Int32) * (mm_ig mm_ABOVE (1 : Int32))) + (2 : Int32)))))) := by
  refine wp_of (uf_X1_call _ _ _ _ _ _ _ _ _ _) ?_
  refine wp_of (uf_X1_call_6 _ _ _ _ _ _ _ _ _ _ _ _) ?_
  refine wp_ifn (by decide) ?_
  refine wp_ifn (by decide) ?_
  refine wp_ck (by decide) ?_
  refine wp_ifp (by decide) ?_
  refine wp_ck (by decide) ?_
  refine wp_nm (fun y1 h1 => ?_)
  subst h1
  refine wp_nm (fun y2 h2 => ?_)
  subst h2
  refine wp_of (uf_X1_call_6 _ _ _ _ _ _ _ _ _ _ _ _) ?_
  refine wp_ifn (by decide) ?_
  refine wp_ifn (by decide) ?_
  refine wp_ck (by decide) ?_
  refine wp_ifn (by decide) ?_
  refine wp_ifn (by decide) ?_
  refine wp_ck (by decide) ?_
  refine wp_ck (by decide) ?_
  refine wp_in3 ?_
  refine wp_of (uf_X1_run _ _ _ _ _ _ _ _ _ _) ?_
  refine wp_of (uf_X1_runo _ _ _ _ _ _ _ _ _ _) ?_
  refine wp_in2 ?_
  refine wp_of (uf_X1_note _ _ _ _) ?_
  refine wp_ifn (by decide) ?_
  refine wp_ck (i_inb (by decide) (by rw [show ((0 : Int32)).toInt = 0 from by decide]; (try simp only [is_len]); omega)) ?_
  refine wp_nm (fun y3 h3 => ?_)
  subst h3
  refine wp_of (uf_X1_note_19 _ _ _) ?_
  refine wp_nm (fun y4 h4 => ?_)
  subst h4
  refine wp_so2 ?_
  show wp _ _
  refine wp_ifn (by decide) ?_
  refine wp_ifp (by decide) ?_
  refine wp_in3 ?_
  refine wp_of (uf_X1_call _ _ _ _ _ _ _ _ _ _) ?_
  refine wp_of (uf_X1_call_6 _ _ _ _ _ _ _ _ _ _ _ _) ?_
  refine wp_ifn (by decide) ?_
  refine wp_ifn (by decide) ?_
  refine wp_ck (by decide) ?_
  refine wp_ifp (by decide) ?_
  refine wp_ck (by decide) ?_
  refine wp_nm (fun y5 h5 => ?_)
  subst h5
  refine wp_nm (fun y6 h6 => ?_)
  subst h6
  refine wp_of (uf_X1_call_6 _ _ _ _ _ _ _ _ _ _ _ _) ?_
  refine wp_ifn (by decide) ?_
  refine wp_ifn (by decide) ?_
  refine wp_ck (by decide) ?_
  refine wp_ifn (by decide) ?_
  refine wp_ifn (by decide) ?_
  refine wp_ck (by decide) ?_
  refine wp_ck (by decide) ?_
  refine wp_in3 ?_
  refine wp_of (uf_X1_run _ _ _ _ _ _ _ _ _ _) ?_
  refine wp_of (uf_X1_runo _ _ _ _ _ _ _ _ _ _) ?_
  refine wp_in2 ?_
  refine wp_of (uf_X1_note _ _ _ _) ?_
  refine wp_ifn (by decide) ?_
  refine wp_ck (i_inb (by decide) (by rw [show (((0 : Int32) + (1 : Int32))).toInt = 1 from by decide]; (try simp only [is_len]); omega)) ?_
  refine wp_nm (fun y7 h7 => ?_)
  subst h7
  refine wp_of (uf_X1_note_19 _ _ _) ?_
  refine wp_nm (fun y8 h8 => ?_)
  subst h8
  refine wp_so2 ?_
  show wp _ _
  refine wp_ifn (by decide) ?_
  refine wp_ifn (by decide) ?_
  refine wp_ifp (by decide) ?_
  refine wp_in3 ?_
  refine wp_of (uf_X1_call _ _ _ _ _ _ _ _ _ _) ?_
  refine wp_of (uf_X1_call_6 _ _ _ _ _ _ _ _ _ _ _ _) ?_
  refine wp_ifn (by decide) ?_
  refine wp_ifn (by decide) ?_
  refine wp_ck (by decide) ?_
  refine wp_ifn (by decide) ?_
  refine wp_ifn (by decide) ?_
  refine wp_ck (by decide) ?_
  refine wp_ck (by decide) ?_
  refine wp_in3 ?_
  refine wp_of (uf_X1_run _ _ _ _ _ _ _ _ _ _) ?_
  refine wp_of (uf_X1_runo _ _ _ _ _ _ _ _ _ _) ?_
  refine wp_in2 ?_
  refine wp_of (uf_X1_note _ _ _ _) ?_
  refine wp_ifn (by decide) ?_
  refine wp_ck (i_inb (by decide) (by rw [show ((((0 : Int32) + (1 : Int32)) + (1 : Int32))).toInt = 2 from by decide]; (try simp only [is_len]); omega)) ?_
  refine wp_nm (fun y9 h9 => ?_)
  subst h9
  refine wp_of (uf_X1_note_19 _ _ _) ?_
  refine wp_nm (fun y10 h10 => ?_)
  subst h10
  refine wp_so2 ?_
  show wp _ _
  refine wp_ifn (by decide) ?_
  refine wp_ifn (by decide) ?_
  refine wp_ifn (by decide) ?_
  refine wp_ifn (by decide) ?_
  refine wp_ifp (by decide) ?_
  refine wp_in3 ?_
  refine wp_of (uf_X1_call _ _ _ _ _ _ _ _ _ _) ?_
  refine wp_of (uf_X1_call_6 _ _ _ _ _ _ _ _ _ _ _ _) ?_
  refine wp_ifn (by decide) ?_
  refine wp_ifn (by decide) ?_
  refine wp_ck (by decide) ?_
  refine wp_ifn (by decide) ?_
  refine wp_ifn (by decide) ?_
  refine wp_ck (by decide) ?_
  refine wp_ck (by decide) ?_
  refine wp_in3 ?_
  refine wp_of (uf_X1_run _ _ _ _ _ _ _ _ _ _) ?_
  refine wp_of (uf_X1_runo _ _ _ _ _ _ _ _ _ _) ?_
  refine wp_in2 ?_
  refine wp_of (uf_X1_note _ _ _ _) ?_
  refine wp_ifn (by decide) ?_
  refine wp_ck (i_inb (by decide) (by rw [show (((((0 : Int32) + (1 : Int32)) + (1 : Int32)) + (1 : Int32))).toInt = 3 from by decide]; (try simp only [is_len]); omega)) ?_
  refine wp_nm (fun y11 h11 => ?_)
  subst h11
  refine wp_of (uf_X1_note_19 _ _ _) ?_
  refine wp_nm (fun y12 h12 => ?_)
  subst h12
  refine wp_so2 ?_
  show wp _ _
  refine wp_ifp (by decide) ?_
  refine wp_so3 ?_
  show wp _ _
  refine wp_so3 ?_
  show wp _ _
  refine wp_so3 ?_
  show wp _ _
  refine wp_so3 ?_
  show wp _ _
  refine wp_so3 ?_
  show wp _ _
  refine wp_so3 ?_
  show wp _ _
  refine wp_in3 ?_
  refine wp_of (uf_X1_call _ _ _ _ _ _ _ _ _ _) ?_
  refine wp_of (uf_X1_call_6 _ _ _ _ _ _ _ _ _ _ _ _) ?_
  refine wp_ifn (by decide) ?_
  refine wp_ifn (by decide) ?_
  refine wp_ck (by decide) ?_
  refine wp_ifp (by decide) ?_
  refine wp_ck (by decide) ?_
  refine wp_nm (fun y13 h13 => ?_)
  subst h13
  refine wp_nm (fun y14 h14 => ?_)
  subst h14
  refine wp_of (uf_X1_call_6 _ _ _ _ _ _ _ _ _ _ _ _) ?_
  refine wp_ifn (by decide) ?_
  refine wp_ifn (by decide) ?_
  refine wp_ck (by decide) ?_
  refine wp_ifn (by decide) ?_
  refine wp_ifn (by decide) ?_
  refine wp_ck (by decide) ?_
  refine wp_ck (by decide) ?_
  refine wp_in3 ?_
  refine wp_of (uf_X1_run _ _ _ _ _ _ _ _ _ _) ?_
  refine wp_of (uf_X1_runo _ _ _ _ _ _ _ _ _ _) ?_
  refine wp_in2 ?_
  refine wp_of (uf_X1_note _ _ _ _) ?_
  refine wp_ifn (by decide) ?_
  refine wp_ck (i_inb (by decide) (by rw [show ((((((0 : Int32) + (1 : Int32)) + (1 : Int32)) + (1 : Int32)) + (1 : Int32))).toInt = 4 from by decide]; (try simp only [is_len]); omega)) ?_
  refine wp_nm (fun y15 h15 => ?_)
  subst h15
  refine wp_of (uf_X1_note_19 _ _ _) ?_
  refine wp_nm (fun y16 h16 => ?_)
  subst h16
  refine wp_so2 ?_
  show wp _ _
  refine wp_ifn (by decide) ?_
  refine wp_ifn (by decide) ?_
  refine wp_ifn (by decide) ?_
  refine wp_ifp (by decide) ?_
  refine wp_so3 ?_
  show wp _ _
  refine wp_so3 ?_
  show wp _ _
  refine wp_so3 ?_
  show wp _ _
  exact wp_so3 ⟨rfl, rfl, rfl⟩

set_option maxRecDepth 20000 in
theorem ac8_2_0 (x b : Int32) (tr : List Int32) (hl : tr.length = 24) : wp (fX1_call 700 (fX1_run 700 42) (2 : Int32) (2 : Int32) (0 : Int32) x (0 : Int32) (0 : Int32) b tr) (cu3 (fun r0 r1 r2 => r0 = (x + b) ∧ r1 = ((0 : Int32) + (1 : Int32)) ∧ r2 = (mm_is tr (0 : Int32) (mm_ig mm_OWN (((4 : Int32) * (mm_ig mm_ABOVE (2 : Int32))) + (0 : Int32)))))) := by
  refine wp_of (uf_X1_call _ _ _ _ _ _ _ _ _ _) ?_
  refine wp_of (uf_X1_call_6 _ _ _ _ _ _ _ _ _ _ _ _) ?_
  refine wp_ifn (by decide) ?_
  refine wp_ifn (by decide) ?_
  refine wp_ck (by decide) ?_
  refine wp_ifp (by decide) ?_
  refine wp_ck (by decide) ?_
  refine wp_nm (fun y1 h1 => ?_)
  subst h1
  refine wp_nm (fun y2 h2 => ?_)
  subst h2
  refine wp_of (uf_X1_call_6 _ _ _ _ _ _ _ _ _ _ _ _) ?_
  refine wp_ifn (by decide) ?_
  refine wp_ifn (by decide) ?_
  refine wp_ck (by decide) ?_
  refine wp_ifn (by decide) ?_
  refine wp_ifn (by decide) ?_
  refine wp_ck (by decide) ?_
  refine wp_ck (by decide) ?_
  refine wp_in3 ?_
  refine wp_of (uf_X1_run _ _ _ _ _ _ _ _ _ _) ?_
  refine wp_of (uf_X1_runo _ _ _ _ _ _ _ _ _ _) ?_
  refine wp_in2 ?_
  refine wp_of (uf_X1_note _ _ _ _) ?_
  refine wp_ifn (by decide) ?_
  refine wp_ck (i_inb (by decide) (by rw [show ((0 : Int32)).toInt = 0 from by decide]; (try simp only [is_len]); omega)) ?_
  refine wp_nm (fun y3 h3 => ?_)
  subst h3
  refine wp_of (uf_X1_note_19 _ _ _) ?_
  refine wp_nm (fun y4 h4 => ?_)
  subst h4
  refine wp_so2 ?_
  show wp _ _
  refine wp_ifp (by decide) ?_
  refine wp_so3 ?_
  show wp _ _
  exact wp_so3 ⟨rfl, rfl, rfl⟩

set_option maxRecDepth 20000 in
theorem ac8_2_1 (x b : Int32) (tr : List Int32) (hl : tr.length = 24) : wp (fX1_call 700 (fX1_run 700 42) (2 : Int32) (2 : Int32) (1 : Int32) x (0 : Int32) (0 : Int32) b tr) (cu3 (fun r0 r1 r2 => r0 = (-((x + b) * (2 : Int32))) ∧ r1 = ((((0 : Int32) + (1 : Int32)) + (1 : Int32)) + (1 : Int32)) ∧ r2 = (mm_is (mm_is (mm_is tr (0 : Int32) (mm_ig mm_OWN (((4 : Int32) * (2 : Int32)) + (1 : Int32)))) ((0 : Int32) + (1 : Int32)) (mm_ig mm_OWN (((4 : Int32) * (mm_ig mm_ABOVE (2 : Int32))) + (1 : Int32)))) (((0 : Int32) + (1 : Int32)) + (1 : Int32)) (mm_ig mm_OWN (((4 : Int32) * (mm_ig mm_ABOVE (2 : Int32))) + (0 : Int32)))))) := by
  refine wp_of (uf_X1_call _ _ _ _ _ _ _ _ _ _) ?_
  refine wp_of (uf_X1_call_6 _ _ _ _ _ _ _ _ _ _ _ _) ?_
  refine wp_ifn (by decide) ?_
  refine wp_ifn (by decide) ?_
  refine wp_ck (by decide) ?_
  refine wp_ifn (by decide) ?_
  refine wp_ifn (by decide) ?_
  refine wp_ck (by decide) ?_
  refine wp_ck (by decide) ?_
  refine wp_in3 ?_
  refine wp_of (uf_X1_run _ _ _ _ _ _ _ _ _ _) ?_
  refine wp_of (uf_X1_runo _ _ _ _ _ _ _ _ _ _) ?_
  refine wp_in2 ?_
  refine wp_of (uf_X1_note _ _ _ _) ?_
  refine wp_ifn (by decide) ?_
  refine wp_ck (i_inb (by decide) (by rw [show ((0 : Int32)).toInt = 0 from by decide]; (try simp only [is_len]); omega)) ?_
  refine wp_nm (fun y1 h1 => ?_)
  subst h1
  refine wp_of (uf_X1_note_19 _ _ _) ?_
  refine wp_nm (fun y2 h2 => ?_)
  subst h2
  refine wp_so2 ?_
  show wp _ _
  refine wp_ifn (by decide) ?_
  refine wp_ifn (by decide) ?_
  refine wp_ifn (by decide) ?_
  refine wp_ifn (by decide) ?_
  refine wp_ifn (by decide) ?_
  refine wp_ifp (by decide) ?_
  refine wp_in3 ?_
  refine wp_of (uf_X1_call _ _ _ _ _ _ _ _ _ _) ?_
  refine wp_of (uf_X1_call_6 _ _ _ _ _ _ _ _ _ _ _ _) ?_
  refine wp_ifn (by decide) ?_
  refine wp_ifn (by decide) ?_
  refine wp_ck (by decide) ?_
  refine wp_ifn (by decide) ?_
  refine wp_ifn (by decide) ?_
  refine wp_ck (by decide) ?_
  refine wp_ck (by decide) ?_
  refine wp_in3 ?_
  refine wp_of (uf_X1_run _ _ _ _ _ _ _ _ _ _) ?_
  refine wp_of (uf_X1_runo _ _ _ _ _ _ _ _ _ _) ?_
  refine wp_in2 ?_
  refine wp_of (uf_X1_note _ _ _ _) ?_
  refine wp_ifn (by decide) ?_
  refine wp_ck (i_inb (by decide) (by rw [show (((0 : Int32) + (1 : Int32))).toInt = 1 from by decide]; (try simp only [is_len]); omega)) ?_
  refine wp_nm (fun y3 h3 => ?_)
  subst h3
  refine wp_of (uf_X1_note_19 _ _ _) ?_
  refine wp_nm (fun y4 h4 => ?_)
  subst h4
  refine wp_so2 ?_
  show wp _ _
  refine wp_ifn (by decide) ?_
  refine wp_ifn (by decide) ?_
  refine wp_ifp (by decide) ?_
  refine wp_in3 ?_
  refine wp_of (uf_X1_call _ _ _ _ _ _ _ _ _ _) ?_
  refine wp_of (uf_X1_call_6 _ _ _ _ _ _ _ _ _ _ _ _) ?_
  refine wp_ifn (by decide) ?_
  refine wp_ifn (by decide) ?_
  refine wp_ck (by decide) ?_
  refine wp_ifp (by decide) ?_
  refine wp_ck (by decide) ?_
  refine wp_nm (fun y5 h5 => ?_)
  subst h5
  refine wp_nm (fun y6 h6 => ?_)
  subst h6
  refine wp_of (uf_X1_call_6 _ _ _ _ _ _ _ _ _ _ _ _) ?_
  refine wp_ifn (by decide) ?_
  refine wp_ifn (by decide) ?_
  refine wp_ck (by decide) ?_
  refine wp_ifn (by decide) ?_
  refine wp_ifn (by decide) ?_
  refine wp_ck (by decide) ?_
  refine wp_ck (by decide) ?_
  refine wp_in3 ?_
  refine wp_of (uf_X1_run _ _ _ _ _ _ _ _ _ _) ?_
  refine wp_of (uf_X1_runo _ _ _ _ _ _ _ _ _ _) ?_
  refine wp_in2 ?_
  refine wp_of (uf_X1_note _ _ _ _) ?_
  refine wp_ifn (by decide) ?_
  refine wp_ck (i_inb (by decide) (by rw [show ((((0 : Int32) + (1 : Int32)) + (1 : Int32))).toInt = 2 from by decide]; (try simp only [is_len]); omega)) ?_
  refine wp_nm (fun y7 h7 => ?_)
  subst h7
  refine wp_of (uf_X1_note_19 _ _ _) ?_
  refine wp_nm (fun y8 h8 => ?_)
  subst h8
  refine wp_so2 ?_
  show wp _ _
  refine wp_ifp (by decide) ?_
  refine wp_so3 ?_
  show wp _ _
  refine wp_so3 ?_
  show wp _ _
  refine wp_so3 ?_
  show wp _ _
  refine wp_so3 ?_
  show wp _ _
  refine wp_so3 ?_
  show wp _ _
  exact wp_so3 ⟨rfl, rfl, rfl⟩

set_option maxRecDepth 20000 in
theorem ac8_2_2 (x b : Int32) (tr : List Int32) (hl : tr.length = 24) : wp (fX1_call 700 (fX1_run 700 42) (2 : Int32) (2 : Int32) (2 : Int32) x (0 : Int32) (0 : Int32) b tr) (cu3 (fun r0 r1 r2 => r0 = (x ^^^ b) ∧ r1 = ((0 : Int32) + (1 : Int32)) ∧ r2 = (mm_is tr (0 : Int32) (mm_ig mm_OWN (((4 : Int32) * (mm_ig mm_ABOVE (2 : Int32))) + (2 : Int32)))))) := by
  refine wp_of (uf_X1_call _ _ _ _ _ _ _ _ _ _) ?_
  refine wp_of (uf_X1_call_6 _ _ _ _ _ _ _ _ _ _ _ _) ?_
  refine wp_ifn (by decide) ?_
  refine wp_ifn (by decide) ?_
  refine wp_ck (by decide) ?_
  refine wp_ifp (by decide) ?_
  refine wp_ck (by decide) ?_
  refine wp_nm (fun y1 h1 => ?_)
  subst h1
  refine wp_nm (fun y2 h2 => ?_)
  subst h2
  refine wp_of (uf_X1_call_6 _ _ _ _ _ _ _ _ _ _ _ _) ?_
  refine wp_ifn (by decide) ?_
  refine wp_ifn (by decide) ?_
  refine wp_ck (by decide) ?_
  refine wp_ifn (by decide) ?_
  refine wp_ifn (by decide) ?_
  refine wp_ck (by decide) ?_
  refine wp_ck (by decide) ?_
  refine wp_in3 ?_
  refine wp_of (uf_X1_run _ _ _ _ _ _ _ _ _ _) ?_
  refine wp_of (uf_X1_runo _ _ _ _ _ _ _ _ _ _) ?_
  refine wp_in2 ?_
  refine wp_of (uf_X1_note _ _ _ _) ?_
  refine wp_ifn (by decide) ?_
  refine wp_ck (i_inb (by decide) (by rw [show ((0 : Int32)).toInt = 0 from by decide]; (try simp only [is_len]); omega)) ?_
  refine wp_nm (fun y3 h3 => ?_)
  subst h3
  refine wp_of (uf_X1_note_19 _ _ _) ?_
  refine wp_nm (fun y4 h4 => ?_)
  subst h4
  refine wp_so2 ?_
  show wp _ _
  refine wp_ifn (by decide) ?_
  refine wp_ifn (by decide) ?_
  refine wp_ifn (by decide) ?_
  refine wp_ifp (by decide) ?_
  refine wp_so3 ?_
  show wp _ _
  exact wp_so3 ⟨rfl, rfl, rfl⟩

set_option maxRecDepth 20000 in
theorem ac8_2_3 (x b : Int32) (tr : List Int32) (hl : tr.length = 24) : wp (fX1_call 700 (fX1_run 700 42) (2 : Int32) (2 : Int32) (3 : Int32) x (0 : Int32) (0 : Int32) b tr) (cu3 (fun r0 r1 r2 => r0 = ((-((x + b) * (2 : Int32))) - ((1 : Int32) ^^^ b)) ∧ r1 = ((((((0 : Int32) + (1 : Int32)) + (1 : Int32)) + (1 : Int32)) + (1 : Int32)) + (1 : Int32)) ∧ r2 = (mm_is (mm_is (mm_is (mm_is (mm_is tr (0 : Int32) (mm_ig mm_OWN (((4 : Int32) * (mm_ig mm_ABOVE (2 : Int32))) + (3 : Int32)))) ((0 : Int32) + (1 : Int32)) (mm_ig mm_OWN (((4 : Int32) * (2 : Int32)) + (1 : Int32)))) (((0 : Int32) + (1 : Int32)) + (1 : Int32)) (mm_ig mm_OWN (((4 : Int32) * (mm_ig mm_ABOVE (2 : Int32))) + (1 : Int32)))) ((((0 : Int32) + (1 : Int32)) + (1 : Int32)) + (1 : Int32)) (mm_ig mm_OWN (((4 : Int32) * (mm_ig mm_ABOVE (2 : Int32))) + (0 : Int32)))) (((((0 : Int32) + (1 : Int32)) + (1 : Int32)) + (1 : Int32)) + (1 : Int32)) (mm_ig mm_OWN (((4 : Int32) * (mm_ig mm_ABOVE (2 : Int32))) + (2 : Int32)))))) := by
  refine wp_of (uf_X1_call _ _ _ _ _ _ _ _ _ _) ?_
  refine wp_of (uf_X1_call_6 _ _ _ _ _ _ _ _ _ _ _ _) ?_
  refine wp_ifn (by decide) ?_
  refine wp_ifn (by decide) ?_
  refine wp_ck (by decide) ?_
  refine wp_ifp (by decide) ?_
  refine wp_ck (by decide) ?_
  refine wp_nm (fun y1 h1 => ?_)
  subst h1
  refine wp_nm (fun y2 h2 => ?_)
  subst h2
  refine wp_of (uf_X1_call_6 _ _ _ _ _ _ _ _ _ _ _ _) ?_
  refine wp_ifn (by decide) ?_
  refine wp_ifn (by decide) ?_
  refine wp_ck (by decide) ?_
  refine wp_ifn (by decide) ?_
  refine wp_ifn (by decide) ?_
  refine wp_ck (by decide) ?_
  refine wp_ck (by decide) ?_
  refine wp_in3 ?_
  refine wp_of (uf_X1_run _ _ _ _ _ _ _ _ _ _) ?_
  refine wp_of (uf_X1_runo _ _ _ _ _ _ _ _ _ _) ?_
  refine wp_in2 ?_
  refine wp_of (uf_X1_note _ _ _ _) ?_
  refine wp_ifn (by decide) ?_
  refine wp_ck (i_inb (by decide) (by rw [show ((0 : Int32)).toInt = 0 from by decide]; (try simp only [is_len]); omega)) ?_
  refine wp_nm (fun y3 h3 => ?_)
  subst h3
  refine wp_of (uf_X1_note_19 _ _ _) ?_
  refine wp_nm (fun y4 h4 => ?_)
  subst h4
  refine wp_so2 ?_
  show wp _ _
  refine wp_ifn (by decide) ?_
  refine wp_ifp (by decide) ?_
  refine wp_in3 ?_
  refine wp_of (uf_X1_call _ _ _ _ _ _ _ _ _ _) ?_
  refine wp_of (uf_X1_call_6 _ _ _ _ _ _ _ _ _ _ _ _) ?_
  refine wp_ifn (by decide) ?_
  refine wp_ifn (by decide) ?_
  refine wp_ck (by decide) ?_
  refine wp_ifn (by decide) ?_
  refine wp_ifn (by decide) ?_
  refine wp_ck (by decide) ?_
  refine wp_ck (by decide) ?_
  refine wp_in3 ?_
  refine wp_of (uf_X1_run _ _ _ _ _ _ _ _ _ _) ?_
  refine wp_of (uf_X1_runo _ _ _ _ _ _ _ _ _ _) ?_
  refine wp_in2 ?_
  refine wp_of (uf_X1_note _ _ _ _) ?_
  refine wp_ifn (by decide) ?_
  refine wp_ck (i_inb (by decide) (by rw [show (((0 : Int32) + (1 : Int32))).toInt = 1 from by decide]; (try simp only [is_len]); omega)) ?_
  refine wp_nm (fun y5 h5 => ?_)
  subst h5
  refine wp_of (uf_X1_note_19 _ _ _) ?_
  refine wp_nm (fun y6 h6 => ?_)
  subst h6
  refine wp_so2 ?_
  show wp _ _
  refine wp_ifn (by decide) ?_
  refine wp_ifn (by decide) ?_
  refine wp_ifn (by decide) ?_
  refine wp_ifn (by decide) ?_
  refine wp_ifn (by decide) ?_
  refine wp_ifp (by decide) ?_
  refine wp_in3 ?_
  refine wp_of (uf_X1_call _ _ _ _ _ _ _ _ _ _) ?_
  refine wp_of (uf_X1_call_6 _ _ _ _ _ _ _ _ _ _ _ _) ?_
  refine wp_ifn (by decide) ?_
  refine wp_ifn (by decide) ?_
  refine wp_ck (by decide) ?_
  refine wp_ifn (by decide) ?_
  refine wp_ifn (by decide) ?_
  refine wp_ck (by decide) ?_
  refine wp_ck (by decide) ?_
  refine wp_in3 ?_
  refine wp_of (uf_X1_run _ _ _ _ _ _ _ _ _ _) ?_
  refine wp_of (uf_X1_runo _ _ _ _ _ _ _ _ _ _) ?_
  refine wp_in2 ?_
  refine wp_of (uf_X1_note _ _ _ _) ?_
  refine wp_ifn (by decide) ?_
  refine wp_ck (i_inb (by decide) (by rw [show ((((0 : Int32) + (1 : Int32)) + (1 : Int32))).toInt = 2 from by decide]; (try simp only [is_len]); omega)) ?_
  refine wp_nm (fun y7 h7 => ?_)
  subst h7
  refine wp_of (uf_X1_note_19 _ _ _) ?_
  refine wp_nm (fun y8 h8 => ?_)
  subst h8
  refine wp_so2 ?_
  show wp _ _
  refine wp_ifn (by decide) ?_
  refine wp_ifn (by decide) ?_
  refine wp_ifp (by decide) ?_
  refine wp_in3 ?_
  refine wp_of (uf_X1_call _ _ _ _ _ _ _ _ _ _) ?_
  refine wp_of (uf_X1_call_6 _ _ _ _ _ _ _ _ _ _ _ _) ?_
  refine wp_ifn (by decide) ?_
  refine wp_ifn (by decide) ?_
  refine wp_ck (by decide) ?_
  refine wp_ifp (by decide) ?_
  refine wp_ck (by decide) ?_
  refine wp_nm (fun y9 h9 => ?_)
  subst h9
  refine wp_nm (fun y10 h10 => ?_)
  subst h10
  refine wp_of (uf_X1_call_6 _ _ _ _ _ _ _ _ _ _ _ _) ?_
  refine wp_ifn (by decide) ?_
  refine wp_ifn (by decide) ?_
  refine wp_ck (by decide) ?_
  refine wp_ifn (by decide) ?_
  refine wp_ifn (by decide) ?_
  refine wp_ck (by decide) ?_
  refine wp_ck (by decide) ?_
  refine wp_in3 ?_
  refine wp_of (uf_X1_run _ _ _ _ _ _ _ _ _ _) ?_
  refine wp_of (uf_X1_runo _ _ _ _ _ _ _ _ _ _) ?_
  refine wp_in2 ?_
  refine wp_of (uf_X1_note _ _ _ _) ?_
  refine wp_ifn (by decide) ?_
  refine wp_ck (i_inb (by decide) (by rw [show (((((0 : Int32) + (1 : Int32)) + (1 : Int32)) + (1 : Int32))).toInt = 3 from by decide]; (try simp only [is_len]); omega)) ?_
  refine wp_nm (fun y11 h11 => ?_)
  subst h11
  refine wp_of (uf_X1_note_19 _ _ _) ?_
  refine wp_nm (fun y12 h12 => ?_)
  subst h12
  refine wp_so2 ?_
  show wp _ _
  refine wp_ifp (by decide) ?_
  refine wp_so3 ?_
  show wp _ _
  refine wp_so3 ?_
  show wp _ _
  refine wp_so3 ?_
  show wp _ _
  refine wp_so3 ?_
  show wp _ _
  refine wp_so3 ?_
  show wp _ _
  refine wp_so3 ?_
  show wp _ _
  refine wp_in3 ?_
  refine wp_of (uf_X1_call _ _ _ _ _ _ _ _ _ _) ?_
  refine wp_of (uf_X1_call_6 _ _ _ _ _ _ _ _ _ _ _ _) ?_
  refine wp_ifn (by decide) ?_
  refine wp_ifn (by decide) ?_
  refine wp_ck (by decide) ?_
  refine wp_ifp (by decide) ?_
  refine wp_ck (by decide) ?_
  refine wp_nm (fun y13 h13 => ?_)
  subst h13
  refine wp_nm (fun y14 h14 => ?_)
  subst h14
  refine wp_of (uf_X1_call_6 _ _ _ _ _ _ _ _ _ _ _ _) ?_
  refine wp_ifn (by decide) ?_
  refine wp_ifn (by decide) ?_
  refine wp_ck (by decide) ?_
  refine wp_ifn (by decide) ?_
  refine wp_ifn (by decide) ?_
  refine wp_ck (by decide) ?_
  refine wp_ck (by decide) ?_
  refine wp_in3 ?_
  refine wp_of (uf_X1_run _ _ _ _ _ _ _ _ _ _) ?_
  refine wp_of (uf_X1_runo _ _ _ _ _ _ _ _ _ _) ?_
  refine wp_in2 ?_
  refine wp_of (uf_X1_note _ _ _ _) ?_
  refine wp_ifn (by decide) ?_
  refine wp_ck (i_inb (by decide) (by rw [show ((((((0 : Int32) + (1 : Int32)) + (1 : Int32)) + (1 : Int32)) + (1 : Int32))).toInt = 4 from by decide]; (try simp only [is_len]); omega)) ?_
  refine wp_nm (fun y15 h15 => ?_)
  subst h15
  refine wp_of (uf_X1_note_19 _ _ _) ?_
  refine wp_nm (fun y16 h16 => ?_)
  subst h16
  refine wp_so2 ?_
  show wp _ _
  refine wp_ifn (by decide) ?_
  refine wp_ifn (by decide) ?_
  refine wp_ifn (by decide) ?_
  refine wp_ifp (by decide) ?_
  refine wp_so3 ?_
  show wp _ _
  refine wp_so3 ?_
  show wp _ _
  refine wp_so3 ?_
  show wp _ _
  exact wp_so3 ⟨rfl, rfl, rfl⟩

set_option maxRecDepth 20000 in
theorem ac8_3_0 (x b : Int32) (tr : List Int32) (hl : tr.length = 24) : wp (fX1_call 700 (fX1_run 700 42) (3 : Int32) (3 : Int32) (0 : Int32) x (0 : Int32) (0 : Int32) b tr) (cu3 (fun r0 r1 r2 => r0 = (x + b) ∧ r1 = ((0 : Int32) + (1 : Int32)) ∧ r2 = (mm_is tr (0 : Int32) (mm_ig mm_OWN (((4 : Int32) * (mm_ig mm_ABOVE (mm_ig mm_ABOVE (3 : Int32)))) + (0 : Int32)))))) := by
  refine wp_of (uf_X1_call _ _ _ _ _ _ _ _ _ _) ?_
  refine wp_of (uf_X1_call_6 _ _ _ _ _ _ _ _ _ _ _ _) ?_
  refine wp_ifn (by decide) ?_
  refine wp_ifn (by decide) ?_
  refine wp_ck (by decide) ?_
  refine wp_ifp (by decide) ?_
  refine wp_ck (by decide) ?_
  refine wp_nm (fun y1 h1 => ?_)
  subst h1
  refine wp_nm (fun y2 h2 => ?_)
  subst h2
  refine wp_of (uf_X1_call_6 _ _ _ _ _ _ _ _ _ _ _ _) ?_
  refine wp_ifn (by decide) ?_
  refine wp_ifn (by decide) ?_
  refine wp_ck (by decide) ?_
  refine wp_ifp (by decide) ?_
  refine wp_ck (by decide) ?_
  refine wp_nm (fun y3 h3 => ?_)
  subst h3
  refine wp_nm (fun y4 h4 => ?_)
  subst h4
  refine wp_of (uf_X1_call_6 _ _ _ _ _ _ _ _ _ _ _ _) ?_
  refine wp_ifn (by decide) ?_
  refine wp_ifn (by decide) ?_
  refine wp_ck (by decide) ?_
  refine wp_ifn (by decide) ?_
  refine wp_ifn (by decide) ?_
  refine wp_ck (by decide) ?_
  refine wp_ck (by decide) ?_
  refine wp_in3 ?_
  refine wp_of (uf_X1_run _ _ _ _ _ _ _ _ _ _) ?_
  refine wp_of (uf_X1_runo _ _ _ _ _ _ _ _ _ _) ?_
  refine wp_in2 ?_
  refine wp_of (uf_X1_note _ _ _ _) ?_
  refine wp_ifn (by decide) ?_
  refine wp_ck (i_inb (by decide) (by rw [show ((0 : Int32)).toInt = 0 from by decide]; (try simp only [is_len]); omega)) ?_
  refine wp_nm (fun y5 h5 => ?_)
  subst h5
  refine wp_of (uf_X1_note_19 _ _ _) ?_
  refine wp_nm (fun y6 h6 => ?_)
  subst h6
  refine wp_so2 ?_
  show wp _ _
  refine wp_ifp (by decide) ?_
  refine wp_so3 ?_
  show wp _ _
  exact wp_so3 ⟨rfl, rfl, rfl⟩

set_option maxRecDepth 20000 in
theorem ac8_3_1 (x b : Int32) (tr : List Int32) (hl : tr.length = 24) : wp (fX1_call 700 (fX1_run 700 42) (3 : Int32) (3 : Int32) (1 : Int32) x (0 : Int32) (0 : Int32) b tr) (cu3 (fun r0 r1 r2 => r0 = (-(((x + (1 : Int32)) + b) * (2 : Int32))) ∧ r1 = (((((0 : Int32) + (1 : Int32)) + (1 : Int32)) + (1 : Int32)) + (1 : Int32)) ∧ r2 = (mm_is (mm_is (mm_is (mm_is tr (0 : Int32) (mm_ig mm_OWN (((4 : Int32) * (3 : Int32)) + (1 : Int32)))) ((0 : Int32) + (1 : Int32)) (mm_ig mm_OWN (((4 : Int32) * (mm_ig mm_ABOVE (3 : Int32))) + (1 : Int32)))) (((0 : Int32) + (1 : Int32)) + (1 : Int32)) (mm_ig mm_OWN (((4 : Int32) * (mm_ig mm_ABOVE (mm_ig mm_ABOVE (3 : Int32)))) + (1 : Int32)))) ((((0 : Int32) + (1 : Int32)) + (1 : Int32)) + (1 : Int32)) (mm_ig mm_OWN (((4 : Int32) * (mm_ig mm_ABOVE (mm_ig mm_ABOVE (3 : Int32)))) + (0 : Int32)))))) := by
  refine wp_of (uf_X1_call _ _ _ _ _ _ _ _ _ _) ?_
  refine wp_of (uf_X1_call_6 _ _ _ _ _ _ _ _ _ _ _ _) ?_
  refine wp_ifn (by decide) ?_
  refine wp_ifn (by decide) ?_
  refine wp_ck (by decide) ?_
  refine wp_ifn (by decide) ?_
  refine wp_ifn (by decide) ?_
  refine wp_ck (by decide) ?_
  refine wp_ck (by decide) ?_
  refine wp_in3 ?_
  refine wp_of (uf_X1_run _ _ _ _ _ _ _ _ _ _) ?_
  refine wp_of (uf_X1_runo _ _ _ _ _ _ _ _ _ _) ?_
  refine wp_in2 ?_
  refine wp_of (uf_X1_note _ _ _ _) ?_
  refine wp_ifn (by decide) ?_
  refine wp_ck (i_inb (by decide) (by rw [show ((0 : Int32)).toInt = 0 from by decide]; (try simp only [is_len]); omega)) ?_
  refine wp_nm (fun y1 h1 => ?_)
  subst h1
  refine wp_of (uf_X1_note_19 _ _ _) ?_
  refine wp_nm (fun y2 h2 => ?_)
  subst h2
  refine wp_so2 ?_
  show wp _ _
  refine wp_ifn (by decide) ?_
  refine wp_ifn (by decide) ?_
  refine wp_ifn (by decide) ?_
  refine wp_ifn (by decide) ?_
  refine wp_ifn (by decide) ?_
  refine wp_ifn (by decide) ?_
  refine wp_ifn (by decide) ?_
  refine wp_ifp (by decide) ?_
  refine wp_in3 ?_
  refine wp_of (uf_X1_call _ _ _ _ _ _ _ _ _ _) ?_
  refine wp_of (uf_X1_call_6 _ _ _ _ _ _ _ _ _ _ _ _) ?_
  refine wp_ifn (by decide) ?_
  refine wp_ifn (by decide) ?_
  refine wp_ck (by decide) ?_
  refine wp_ifn (by decide) ?_
  refine wp_ifn (by decide) ?_
  refine wp_ck (by decide) ?_
  refine wp_ck (by decide) ?_
  refine wp_in3 ?_
  refine wp_of (uf_X1_run _ _ _ _ _ _ _ _ _ _) ?_
  refine wp_of (uf_X1_runo _ _ _ _ _ _ _ _ _ _) ?_
  refine wp_in2 ?_
  refine wp_of (uf_X1_note _ _ _ _) ?_
  refine wp_ifn (by decide) ?_
  refine wp_ck (i_inb (by decide) (by rw [show (((0 : Int32) + (1 : Int32))).toInt = 1 from by decide]; (try simp only [is_len]); omega)) ?_
  refine wp_nm (fun y3 h3 => ?_)
  subst h3
  refine wp_of (uf_X1_note_19 _ _ _) ?_
  refine wp_nm (fun y4 h4 => ?_)
  subst h4
  refine wp_so2 ?_
  show wp _ _
  refine wp_ifn (by decide) ?_
  refine wp_ifn (by decide) ?_
  refine wp_ifn (by decide) ?_
  refine wp_ifn (by decide) ?_
  refine wp_ifn (by decide) ?_
  refine wp_ifp (by decide) ?_
  refine wp_in3 ?_
  refine wp_of (uf_X1_call _ _ _ _ _ _ _ _ _ _) ?_
  refine wp_of (uf_X1_call_6 _ _ _ _ _ _ _ _ _ _ _ _) ?_
  refine wp_ifn (by decide) ?_
  refine wp_ifn (by decide) ?_
  refine wp_ck (by decide) ?_
  refine wp_ifn (by decide) ?_
  refine wp_ifn (by decide) ?_
  refine wp_ck (by decide) ?_
  refine wp_ck (by decide) ?_
  refine wp_in3 ?_
  refine wp_of (uf_X1_run _ _ _ _ _ _ _ _ _ _) ?_
  refine wp_of (uf_X1_runo _ _ _ _ _ _ _ _ _ _) ?_
  refine wp_in2 ?_
  refine wp_of (uf_X1_note _ _ _ _) ?_
  refine wp_ifn (by decide) ?_
  refine wp_ck (i_inb (by decide) (by rw [show ((((0 : Int32) + (1 : Int32)) + (1 : Int32))).toInt = 2 from by decide]; (try simp only [is_len]); omega)) ?_
  refine wp_nm (fun y5 h5 => ?_)
  subst h5
  refine wp_of (uf_X1_note_19 _ _ _) ?_
  refine wp_nm (fun y6 h6 => ?_)
  subst h6
  refine wp_so2 ?_
  show wp _ _
  refine wp_ifn (by decide) ?_
  refine wp_ifn (by decide) ?_
  refine wp_ifp (by decide) ?_
  refine wp_in3 ?_
  refine wp_of (uf_X1_call _ _ _ _ _ _ _ _ _ _) ?_
  refine wp_of (uf_X1_call_6 _ _ _ _ _ _ _ _ _ _ _ _) ?_
  refine wp_ifn (by decide) ?_
  refine wp_ifn (by decide) ?_
  refine wp_ck (by decide) ?_
  refine wp_ifp (by decide) ?_
  refine wp_ck (by decide) ?_
  refine wp_nm (fun y7 h7 => ?_)
  subst h7
  refine wp_nm (fun y8 h8 => ?_)
  subst h8
  refine wp_of (uf_X1_call_6 _ _ _ _ _ _ _ _ _ _ _ _) ?_
  refine wp_ifn (by decide) ?_
  refine wp_ifn (by decide) ?_
  refine wp_ck (by decide) ?_
  refine wp_ifp (by decide) ?_
  refine wp_ck (by decide) ?_
  refine wp_nm (fun y9 h9 => ?_)
  subst h9
  refine wp_nm (fun y10 h10 => ?_)
  subst h10
  refine wp_of (uf_X1_call_6 _ _ _ _ _ _ _ _ _ _ _ _) ?_
  refine wp_ifn (by decide) ?_
  refine wp_ifn (by decide) ?_
  refine wp_ck (by decide) ?_
  refine wp_ifn (by decide) ?_
  refine wp_ifn (by decide) ?_
  refine wp_ck (by decide) ?_
  refine wp_ck (by decide) ?_
  refine wp_in3 ?_
  refine wp_of (uf_X1_run _ _ _ _ _ _ _ _ _ _) ?_
  refine wp_of (uf_X1_runo _ _ _ _ _ _ _ _ _ _) ?_
  refine wp_in2 ?_
  refine wp_of (uf_X1_note _ _ _ _) ?_
  refine wp_ifn (by decide) ?_
  refine wp_ck (i_inb (by decide) (by rw [show (((((0 : Int32) + (1 : Int32)) + (1 : Int32)) + (1 : Int32))).toInt = 3 from by decide]; (try simp only [is_len]); omega)) ?_
  refine wp_nm (fun y11 h11 => ?_)
  subst h11
  refine wp_of (uf_X1_note_19 _ _ _) ?_
  refine wp_nm (fun y12 h12 => ?_)
  subst h12
  refine wp_so2 ?_
  show wp _ _
  refine wp_ifp (by decide) ?_
  refine wp_so3 ?_
  show wp _ _
  refine wp_so3 ?_
  show wp _ _
  refine wp_so3 ?_
  show wp _ _
  refine wp_so3 ?_
  show wp _ _
  refine wp_so3 ?_
  show wp _ _
  refine wp_so3 ?_
  show wp _ _
  refine wp_so3 ?_
  show wp _ _
  exact wp_so3 ⟨rfl, rfl, rfl⟩

set_option maxRecDepth 20000 in
theorem ac8_3_2 (x b : Int32) (tr : List Int32) (hl : tr.length = 24) : wp (fX1_call 700 (fX1_run 700 42) (3 : Int32) (3 : Int32) (2 : Int32) x (0 : Int32) (0 : Int32) b tr) (cu3 (fun r0 r1 r2 => r0 = ((x ^^^ b) * (3 : Int32)) ∧ r1 = (((0 : Int32) + (1 : Int32)) + (1 : Int32)) ∧ r2 = (mm_is (mm_is tr (0 : Int32) (mm_ig mm_OWN (((4 : Int32) * (3 : Int32)) + (2 : Int32)))) ((0 : Int32) + (1 : Int32)) (mm_ig mm_OWN (((4 : Int32) * (mm_ig mm_ABOVE (mm_ig mm_ABOVE (3 : Int32)))) + (2 : Int32)))))) := by
  refine wp_of (uf_X1_call _ _ _ _ _ _ _ _ _ _) ?_
  refine wp_of (uf_X1_call_6 _ _ _ _ _ _ _ _ _ _ _ _) ?_
  refine wp_ifn (by decide) ?_
  refine wp_ifn (by decide) ?_
  refine wp_ck (by decide) ?_
  refine wp_ifn (by decide) ?_
  refine wp_ifn (by decide) ?_
  refine wp_ck (by decide) ?_
  refine wp_ck (by decide) ?_
  refine wp_in3 ?_
  refine wp_of (uf_X1_run _ _ _ _ _ _ _ _ _ _) ?_
  refine wp_of (uf_X1_runo _ _ _ _ _ _ _ _ _ _) ?_
  refine wp_in2 ?_
  refine wp_of (uf_X1_note _ _ _ _) ?_
  refine wp_ifn (by decide) ?_
  refine wp_ck (i_inb (by decide) (by rw [show ((0 : Int32)).toInt = 0 from by decide]; (try simp only [is_len]); omega)) ?_
  refine wp_nm (fun y1 h1 => ?_)
  subst h1
  refine wp_of (uf_X1_note_19 _ _ _) ?_
  refine wp_nm (fun y2 h2 => ?_)
  subst h2
  refine wp_so2 ?_
  show wp _ _
  refine wp_ifn (by decide) ?_
  refine wp_ifn (by decide) ?_
  refine wp_ifn (by decide) ?_
  refine wp_ifn (by decide) ?_
  refine wp_ifn (by decide) ?_
  refine wp_ifn (by decide) ?_
  refine wp_ifp (by decide) ?_
  refine wp_in3 ?_
  refine wp_of (uf_X1_call _ _ _ _ _ _ _ _ _ _) ?_
  refine wp_of (uf_X1_call_6 _ _ _ _ _ _ _ _ _ _ _ _) ?_
  refine wp_ifn (by decide) ?_
  refine wp_ifn (by decide) ?_
  refine wp_ck (by decide) ?_
  refine wp_ifp (by decide) ?_
  refine wp_ck (by decide) ?_
  refine wp_nm (fun y3 h3 => ?_)
  subst h3
  refine wp_nm (fun y4 h4 => ?_)
  subst h4
  refine wp_of (uf_X1_call_6 _ _ _ _ _ _ _ _ _ _ _ _) ?_
  refine wp_ifn (by decide) ?_
  refine wp_ifn (by decide) ?_
  refine wp_ck (by decide) ?_
  refine wp_ifn (by decide) ?_
  refine wp_ifn (by decide) ?_
  refine wp_ck (by decide) ?_
  refine wp_ck (by decide) ?_
  refine wp_in3 ?_
  refine wp_of (uf_X1_run _ _ _ _ _ _ _ _ _ _) ?_
  refine wp_of (uf_X1_runo _ _ _ _ _ _ _ _ _ _) ?_
  refine wp_in2 ?_
  refine wp_of (uf_X1_note _ _ _ _) ?_
  refine wp_ifn (by decide) ?_
  refine wp_ck (i_inb (by decide) (by rw [show (((0 : Int32) + (1 : Int32))).toInt = 1 from by decide]; (try simp only [is_len]); omega)) ?_
  refine wp_nm (fun y5 h5 => ?_)
  subst h5
  refine wp_of (uf_X1_note_19 _ _ _) ?_
  refine wp_nm (fun y6 h6 => ?_)
  subst h6
  refine wp_so2 ?_
  show wp _ _
  refine wp_ifn (by decide) ?_
  refine wp_ifn (by decide) ?_
  refine wp_ifn (by decide) ?_
  refine wp_ifp (by decide) ?_
  refine wp_so3 ?_
  show wp _ _
  refine wp_so3 ?_
  show wp _ _
  refine wp_so3 ?_
  show wp _ _
  exact wp_so3 ⟨rfl, rfl, rfl⟩

set_option maxRecDepth 20000 in
theorem ac8_3_3 (x b : Int32) (tr : List Int32) (hl : tr.length = 24) : wp (fX1_call 700 (fX1_run 700 42) (3 : Int32) (3 : Int32) (3 : Int32) x (0 : Int32) (0 : Int32) b tr) (cu3 (fun r0 r1 r2 => r0 = ((-(((x + (1 : Int32)) + b) * (2 : Int32))) - (((1 : Int32) ^^^ b) * (3 : Int32))) ∧ r1 = ((((((((0 : Int32) + (1 : Int32)) + (1 : Int32)) + (1 : Int32)) + (1 : Int32)) + (1 : Int32)) + (1 : Int32)) + (1 : Int32)) ∧ r2 = (mm_is (mm_is (mm_is (mm_is (mm_is (mm_is (mm_is tr (0 : Int32) (mm_ig mm_OWN (((4 : Int32) * (mm_ig mm_ABOVE (mm_ig mm_ABOVE (3 : Int32)))) + (3 : Int32)))) ((0 : Int32) + (1 : Int32)) (mm_ig mm_OWN (((4 : Int32) * (3 : Int32)) + (1 : Int32)))) (((0 : Int32) + (1 : Int32)) + (1 : Int32)) (mm_ig mm_OWN (((4 : Int32) * (mm_ig mm_ABOVE (3 : Int32))) + (1 : Int32)))) ((((0 : Int32) + (1 : Int32)) + (1 : Int32)) + (1 : Int32)) (mm_ig mm_OWN (((4 : Int32) * (mm_ig mm_ABOVE (mm_ig mm_ABOVE (3 : Int32)))) + (1 : Int32)))) (((((0 : Int32) + (1 : Int32)) + (1 : Int32)) + (1 : Int32)) + (1 : Int32)) (mm_ig mm_OWN (((4 : Int32) * (mm_ig mm_ABOVE (mm_ig mm_ABOVE (3 : Int32)))) + (0 : Int32)))) ((((((0 : Int32) + (1 : Int32)) + (1 : Int32)) + (1 : Int32)) + (1 : Int32)) + (1 : Int32)) (mm_ig mm_OWN (((4 : Int32) * (3 : Int32)) + (2 : Int32)))) (((((((0 : Int32) + (1 : Int32)) + (1 : Int32)) + (1 : Int32)) + (1 : Int32)) + (1 : Int32)) + (1 : Int32)) (mm_ig mm_OWN (((4 : Int32) * (mm_ig mm_ABOVE (mm_ig mm_ABOVE (3 : Int32)))) + (2 : Int32)))))) := by
  refine wp_of (uf_X1_call _ _ _ _ _ _ _ _ _ _) ?_
  refine wp_of (uf_X1_call_6 _ _ _ _ _ _ _ _ _ _ _ _) ?_
  refine wp_ifn (by decide) ?_
  refine wp_ifn (by decide) ?_
  refine wp_ck (by decide) ?_
  refine wp_ifp (by decide) ?_
  refine wp_ck (by decide) ?_
  refine wp_nm (fun y1 h1 => ?_)
  subst h1
  refine wp_nm (fun y2 h2 => ?_)
  subst h2
  refine wp_of (uf_X1_call_6 _ _ _ _ _ _ _ _ _ _ _ _) ?_
  refine wp_ifn (by decide) ?_
  refine wp_ifn (by decide) ?_
  refine wp_ck (by decide) ?_
  refine wp_ifp (by decide) ?_
  refine wp_ck (by decide) ?_
  refine wp_nm (fun y3 h3 => ?_)
  subst h3
  refine wp_nm (fun y4 h4 => ?_)
  subst h4
  refine wp_of (uf_X1_call_6 _ _ _ _ _ _ _ _ _ _ _ _) ?_
  refine wp_ifn (by decide) ?_
  refine wp_ifn (by decide) ?_
  refine wp_ck (by decide) ?_
  refine wp_ifn (by decide) ?_
  refine wp_ifn (by decide) ?_
  refine wp_ck (by decide) ?_
  refine wp_ck (by decide) ?_
  refine wp_in3 ?_
  refine wp_of (uf_X1_run _ _ _ _ _ _ _ _ _ _) ?_
  refine wp_of (uf_X1_runo _ _ _ _ _ _ _ _ _ _) ?_
  refine wp_in2 ?_
  refine wp_of (uf_X1_note _ _ _ _) ?_
  refine wp_ifn (by decide) ?_
  refine wp_ck (i_inb (by decide) (by rw [show ((0 : Int32)).toInt = 0 from by decide]; (try simp only [is_len]); omega)) ?_
  refine wp_nm (fun y5 h5 => ?_)
  subst h5
  refine wp_of (uf_X1_note_19 _ _ _) ?_
  refine wp_nm (fun y6 h6 => ?_)
  subst h6
  refine wp_so2 ?_
  show wp _ _
  refine wp_ifn (by decide) ?_
  refine wp_ifp (by decide) ?_
  refine wp_in3 ?_
  refine wp_of (uf_X1_call _ _ _ _ _ _ _ _ _ _) ?_
  refine wp_of (uf_X1_call_6 _ _ _ _ _ _ _ _ _ _ _ _) ?_
  refine wp_ifn (by decide) ?_
  refine wp_ifn (by decide) ?_
  refine wp_ck (by decide) ?_
  refine wp_ifn (by decide) ?_
  refine wp_ifn (by decide) ?_
  refine wp_ck (by decide) ?_
  refine wp_ck (by decide) ?_
  refine wp_in3 ?_
  refine wp_of (uf_X1_run _ _ _ _ _ _ _ _ _ _) ?_
  refine wp_of (uf_X1_runo _ _ _ _ _ _ _ _ _ _) ?_
  refine wp_in2 ?_
  refine wp_of (uf_X1_note _ _ _ _) ?_
  refine wp_ifn (by decide) ?_
  refine wp_ck (i_inb (by decide) (by rw [show (((0 : Int32) + (1 : Int32))).toInt = 1 from by decide]; (try simp only [is_len]); omega)) ?_
  refine wp_nm (fun y7 h7 => ?_)
  subst h7
  refine wp_of (uf_X1_note_19 _ _ _) ?_
  refine wp_nm (fun y8 h8 => ?_)
  subst h8
  refine wp_so2 ?_
  show wp _ _
  refine wp_ifn (by decide) ?_
  refine wp_ifn (by decide) ?_
  refine wp_ifn (by decide) ?_
  refine wp_ifn (by decide) ?_
  refine wp_ifn (by decide) ?_
  refine wp_ifn (by decide) ?_
  refine wp_ifn (by decide) ?_
  refine wp_ifp (by decide) ?_
  refine wp_in3 ?_
  refine wp_of (uf_X1_call _ _ _ _ _ _ _ _ _ _) ?_
  refine wp_of (uf_X1_call_6 _ _ _ _ _ _ _ _ _ _ _ _) ?_
  refine wp_ifn (by decide) ?_
  refine wp_ifn (by decide) ?_
  refine wp_ck (by decide) ?_
  refine wp_ifn (by decide) ?_
  refine wp_ifn (by decide) ?_
  refine wp_ck (by decide) ?_
  refine wp_ck (by decide) ?_
  refine wp_in3 ?_
  refine wp_of (uf_X1_run _ _ _ _ _ _ _ _ _ _) ?_
  refine wp_of (uf_X1_runo _ _ _ _ _ _ _ _ _ _) ?_
  refine wp_in2 ?_
  refine wp_of (uf_X1_note _ _ _ _) ?_
  refine wp_ifn (by decide) ?_
  refine wp_ck (i_inb (by decide) (by rw [show ((((0 : Int32) + (1 : Int32)) + (1 : Int32))).toInt = 2 from by decide]; (try simp only [is_len]); omega)) ?_
  refine wp_nm (fun y9 h9 => ?_)
  subst h9
  refine wp_of (uf_X1_note_19 _ _ _) ?_
  refine wp_nm (fun y10 h10 => ?_)
  subst h10
  refine wp_so2 ?_
  show wp _ _
  refine wp_ifn (by decide) ?_
  refine wp_ifn (by decide) ?_
  refine wp_ifn (by decide) ?_
  refine wp_ifn (by decide) ?_
  refine wp_ifn (by decide) ?_
  refine wp_ifp (by decide) ?_
  refine wp_in3 ?_
  refine wp_of (uf_X1_call _ _ _ _ _ _ _ _ _ _) ?_
  refine wp_of (uf_X1_call_6 _ _ _ _ _ _ _ _ _ _ _ _) ?_
  refine wp_ifn (by decide) ?_
  refine wp_ifn (by decide) ?_
  refine wp_ck (by decide) ?_
  refine wp_ifn (by decide) ?_
  refine wp_ifn (by decide) ?_
  refine wp_ck (by decide) ?_
  refine wp_ck (by decide) ?_
  refine wp_in3 ?_
  refine wp_of (uf_X1_run _ _ _ _ _ _ _ _ _ _) ?_
  refine wp_of (uf_X1_runo _ _ _ _ _ _ _ _ _ _) ?_
  refine wp_in2 ?_
  refine wp_of (uf_X1_note _ _ _ _) ?_
  refine wp_ifn (by decide) ?_
  refine wp_ck (i_inb (by decide) (by rw [show (((((0 : Int32) + (1 : Int32)) + (1 : Int32)) + (1 : Int32))).toInt = 3 from by decide]; (try simp only [is_len]); omega)) ?_
  refine wp_nm (fun y11 h11 => ?_)
  subst h11
  refine wp_of (uf_X1_note_19 _ _ _) ?_
  refine wp_nm (fun y12 h12 => ?_)
  subst h12
  refine wp_so2 ?_
  show wp _ _
  refine wp_ifn (by decide) ?_
  refine wp_ifn (by decide) ?_
  refine wp_ifp (by decide) ?_
  refine wp_in3 ?_
  refine wp_of (uf_X1_call _ _ _ _ _ _ _ _ _ _) ?_
  refine wp_of (uf_X1_call_6 _ _ _ _ _ _ _ _ _ _ _ _) ?_
  refine wp_ifn (by decide) ?_
  refine wp_ifn (by decide) ?_
  refine wp_ck (by decide) ?_
  refine wp_ifp (by decide) ?_
  refine wp_ck (by decide) ?_
  refine wp_nm (fun y13 h13 => ?_)
  subst h13
  refine wp_nm (fun y14 h14 => ?_)
  subst h14
  refine wp_of (uf_X1_call_6 _ _ _ _ _ _ _ _ _ _ _ _) ?_
  refine wp_ifn (by decide) ?_
  refine wp_ifn (by decide) ?_
  refine wp_ck (by decide) ?_
  refine wp_ifp (by decide) ?_
  refine wp_ck (by decide) ?_
  refine wp_nm (fun y15 h15 => ?_)
  subst h15
  refine wp_nm (fun y16 h16 => ?_)
  subst h16
  refine wp_of (uf_X1_call_6 _ _ _ _ _ _ _ _ _ _ _ _) ?_
  refine wp_ifn (by decide) ?_
  refine wp_ifn (by decide) ?_
  refine wp_ck (by decide) ?_
  refine wp_ifn (by decide) ?_
  refine wp_ifn (by decide) ?_
  refine wp_ck (by decide) ?_
  refine wp_ck (by decide) ?_
  refine wp_in3 ?_
  refine wp_of (uf_X1_run _ _ _ _ _ _ _ _ _ _) ?_
  refine wp_of (uf_X1_runo _ _ _ _ _ _ _ _ _ _) ?_
  refine wp_in2 ?_
  refine wp_of (uf_X1_note _ _ _ _) ?_
  refine wp_ifn (by decide) ?_
  refine wp_ck (i_inb (by decide) (by rw [show ((((((0 : Int32) + (1 : Int32)) + (1 : Int32)) + (1 : Int32)) + (1 : Int32))).toInt = 4 from by decide]; (try simp only [is_len]); omega)) ?_
  refine wp_nm (fun y17 h17 => ?_)
  subst h17
  refine wp_of (uf_X1_note_19 _ _ _) ?_
  refine wp_nm (fun y18 h18 => ?_)
  subst h18
  refine wp_so2 ?_
  show wp _ _
  refine wp_ifp (by decide) ?_
  refine wp_so3 ?_
  show wp _ _
  refine wp_so3 ?_
  show wp _ _
  refine wp_so3 ?_
  show wp _ _
  refine wp_so3 ?_
  show wp _ _
  refine wp_so3 ?_
  show wp _ _
  refine wp_so3 ?_
  show wp _ _
  refine wp_so3 ?_
  show wp _ _
  refine wp_so3 ?_
  show wp _ _
  refine wp_in3 ?_
  refine wp_of (uf_X1_call _ _ _ _ _ _ _ _ _ _) ?_
  refine wp_of (uf_X1_call_6 _ _ _ _ _ _ _ _ _ _ _ _) ?_
  refine wp_ifn (by decide) ?_
  refine wp_ifn (by decide) ?_
  refine wp_ck (by decide) ?_
  refine wp_ifn (by decide) ?_
  refine wp_ifn (by decide) ?_
  refine wp_ck (by decide) ?_
  refine wp_ck (by decide) ?_
  refine wp_in3 ?_
  refine wp_of (uf_X1_run _ _ _ _ _ _ _ _ _ _) ?_
  refine wp_of (uf_X1_runo _ _ _ _ _ _ _ _ _ _) ?_
  refine wp_in2 ?_
  refine wp_of (uf_X1_note _ _ _ _) ?_
  refine wp_ifn (by decide) ?_
  refine wp_ck (i_inb (by decide) (by rw [show (((((((0 : Int32) + (1 : Int32)) + (1 : Int32)) + (1 : Int32)) + (1 : Int32)) + (1 : Int32))).toInt = 5 from by decide]; (try simp only [is_len]); omega)) ?_
  refine wp_nm (fun y19 h19 => ?_)
  subst h19
  refine wp_of (uf_X1_note_19 _ _ _) ?_
  refine wp_nm (fun y20 h20 => ?_)
  subst h20
  refine wp_so2 ?_
  show wp _ _
  refine wp_ifn (by decide) ?_
  refine wp_ifn (by decide) ?_
  refine wp_ifn (by decide) ?_
  refine wp_ifn (by decide) ?_
  refine wp_ifn (by decide) ?_
  refine wp_ifn (by decide) ?_
  refine wp_ifp (by decide) ?_
  refine wp_in3 ?_
  refine wp_of (uf_X1_call _ _ _ _ _ _ _ _ _ _) ?_
  refine wp_of (uf_X1_call_6 _ _ _ _ _ _ _ _ _ _ _ _) ?_
  refine wp_ifn (by decide) ?_
  refine wp_ifn (by decide) ?_
  refine wp_ck (by decide) ?_
  refine wp_ifp (by decide) ?_
  refine wp_ck (by decide) ?_
  refine wp_nm (fun y21 h21 => ?_)
  subst h21
  refine wp_nm (fun y22 h22 => ?_)
  subst h22
  refine wp_of (uf_X1_call_6 _ _ _ _ _ _ _ _ _ _ _ _) ?_
  refine wp_ifn (by decide) ?_
  refine wp_ifn (by decide) ?_
  refine wp_ck (by decide) ?_
  refine wp_ifn (by decide) ?_
  refine wp_ifn (by decide) ?_
  refine wp_ck (by decide) ?_
  refine wp_ck (by decide) ?_
  refine wp_in3 ?_
  refine wp_of (uf_X1_run _ _ _ _ _ _ _ _ _ _) ?_
  refine wp_of (uf_X1_runo _ _ _ _ _ _ _ _ _ _) ?_
  refine wp_in2 ?_
  refine wp_of (uf_X1_note _ _ _ _) ?_
  refine wp_ifn (by decide) ?_
  refine wp_ck (i_inb (by decide) (by rw [show ((((((((0 : Int32) + (1 : Int32)) + (1 : Int32)) + (1 : Int32)) + (1 : Int32)) + (1 : Int32)) + (1 : Int32))).toInt = 6 from by decide]; (try simp only [is_len]); omega)) ?_
  refine wp_nm (fun y23 h23 => ?_)
  subst h23
  refine wp_of (uf_X1_note_19 _ _ _) ?_
  refine wp_nm (fun y24 h24 => ?_)
  subst h24
  refine wp_so2 ?_
  show wp _ _
  refine wp_ifn (by decide) ?_
  refine wp_ifn (by decide) ?_
  refine wp_ifn (by decide) ?_
  refine wp_ifp (by decide) ?_
  refine wp_so3 ?_
  show wp _ _
  refine wp_so3 ?_
  show wp _ _
  refine wp_so3 ?_
  show wp _ _
  refine wp_so3 ?_
  show wp _ _
  refine wp_so3 ?_
  show wp _ _
  exact wp_so3 ⟨rfl, rfl, rfl⟩

set_option maxRecDepth 20000 in
theorem ac8_4_0 (x b : Int32) (tr : List Int32) (hl : tr.length = 24) : wp (fX1_call 700 (fX1_run 700 42) (4 : Int32) (4 : Int32) (0 : Int32) x (0 : Int32) (0 : Int32) b tr) (cu3 (fun r0 r1 r2 => r0 = (x + b) ∧ r1 = ((0 : Int32) + (1 : Int32)) ∧ r2 = (mm_is tr (0 : Int32) (mm_ig mm_OWN (((4 : Int32) * (mm_ig mm_ABOVE (4 : Int32))) + (0 : Int32)))))) := by
  refine wp_of (uf_X1_call _ _ _ _ _ _ _ _ _ _) ?_
  refine wp_of (uf_X1_call_6 _ _ _ _ _ _ _ _ _ _ _ _) ?_
  refine wp_ifn (by decide) ?_
  refine wp_ifn (by decide) ?_
  refine wp_ck (by decide) ?_
  refine wp_ifp (by decide) ?_
  refine wp_ck (by decide) ?_
  refine wp_nm (fun y1 h1 => ?_)
  subst h1
  refine wp_nm (fun y2 h2 => ?_)
  subst h2
  refine wp_of (uf_X1_call_6 _ _ _ _ _ _ _ _ _ _ _ _) ?_
  refine wp_ifn (by decide) ?_
  refine wp_ifn (by decide) ?_
  refine wp_ck (by decide) ?_
  refine wp_ifn (by decide) ?_
  refine wp_ifn (by decide) ?_
  refine wp_ck (by decide) ?_
  refine wp_ck (by decide) ?_
  refine wp_in3 ?_
  refine wp_of (uf_X1_run _ _ _ _ _ _ _ _ _ _) ?_
  refine wp_of (uf_X1_runo _ _ _ _ _ _ _ _ _ _) ?_
  refine wp_in2 ?_
  refine wp_of (uf_X1_note _ _ _ _) ?_
  refine wp_ifn (by decide) ?_
  refine wp_ck (i_inb (by decide) (by rw [show ((0 : Int32)).toInt = 0 from by decide]; (try simp only [is_len]); omega)) ?_
  refine wp_nm (fun y3 h3 => ?_)
  subst h3
  refine wp_of (uf_X1_note_19 _ _ _) ?_
  refine wp_nm (fun y4 h4 => ?_)
  subst h4
  refine wp_so2 ?_
  show wp _ _
  refine wp_ifp (by decide) ?_
  refine wp_so3 ?_
  show wp _ _
  exact wp_so3 ⟨rfl, rfl, rfl⟩

set_option maxRecDepth 20000 in
theorem ac8_4_1 (x b : Int32) (tr : List Int32) (hl : tr.length = 24) : wp (fX1_call 700 (fX1_run 700 42) (4 : Int32) (4 : Int32) (1 : Int32) x (0 : Int32) (0 : Int32) b tr) (cu3 (fun r0 r1 r2 => r0 = ((x + b) * (2 : Int32)) ∧ r1 = (((0 : Int32) + (1 : Int32)) + (1 : Int32)) ∧ r2 = (mm_is (mm_is tr (0 : Int32) (mm_ig mm_OWN (((4 : Int32) * (mm_ig mm_ABOVE (4 : Int32))) + (1 : Int32)))) ((0 : Int32) + (1 : Int32)) (mm_ig mm_OWN (((4 : Int32) * (mm_ig mm_ABOVE (4 : Int32))) + (0 : Int32)))))) := by
  refine wp_of (uf_X1_call _ _ _ _ _ _ _ _ _ _) ?_
  refine wp_of (uf_X1_call_6 _ _ _ _ _ _ _ _ _ _ _ _) ?_
  refine wp_ifn (by decide) ?_
  refine wp_ifn (by decide) ?_
  refine wp_ck (by decide) ?_
  refine wp_ifp (by decide) ?_
  refine wp_ck (by decide) ?_
  refine wp_nm (fun y1 h1 => ?_)
  subst h1
  refine wp_nm (fun y2 h2 => ?_)
  subst h2
  refine wp_of (uf_X1_call_6 _ _ _ _ _ _ _ _ _ _ _ _) ?_
  refine wp_ifn (by decide) ?_
  refine wp_ifn (by decide) ?_
  refine wp_ck (by decide) ?_
  refine wp_ifn (by decide) ?_
  refine wp_ifn (by decide) ?_
  refine wp_ck (by decide) ?_
  refine wp_ck (by decide) ?_
  refine wp_in3 ?_
  refine wp_of (uf_X1_run _ _ _ _ _ _ _ _ _ _) ?_
  refine wp_of (uf_X1_runo _ _ _ _ _ _ _ _ _ _) ?_
  refine wp_in2 ?_
  refine wp_of (uf_X1_note _ _ _ _) ?_
  refine wp_ifn (by decide) ?_
  refine wp_ck (i_inb (by decide) (by rw [show ((0 : Int32)).toInt = 0 from by decide]; (try simp only [is_len]); omega)) ?_
  refine wp_nm (fun y3 h3 => ?_)
  subst h3
  refine wp_of (uf_X1_note_19 _ _ _) ?_
  refine wp_nm (fun y4 h4 => ?_)
  subst h4
  refine wp_so2 ?_
  show wp _ _
  refine wp_ifn (by decide) ?_
  refine wp_ifn (by decide) ?_
  refine wp_ifp (by decide) ?_
  refine wp_in3 ?_
  refine wp_of (uf_X1_call _ _ _ _ _ _ _ _ _ _) ?_
  refine wp_of (uf_X1_call_6 _ _ _ _ _ _ _ _ _ _ _ _) ?_
  refine wp_ifn (by decide) ?_
  refine wp_ifn (by decide) ?_
  refine wp_ck (by decide) ?_
  refine wp_ifp (by decide) ?_
  refine wp_ck (by decide) ?_
  refine wp_nm (fun y5 h5 => ?_)
  subst h5
  refine wp_nm (fun y6 h6 => ?_)
  subst h6
  refine wp_of (uf_X1_call_6 _ _ _ _ _ _ _ _ _ _ _ _) ?_
  refine wp_ifn (by decide) ?_
  refine wp_ifn (by decide) ?_
  refine wp_ck (by decide) ?_
  refine wp_ifn (by decide) ?_
  refine wp_ifn (by decide) ?_
  refine wp_ck (by decide) ?_
  refine wp_ck (by decide) ?_
  refine wp_in3 ?_
  refine wp_of (uf_X1_run _ _ _ _ _ _ _ _ _ _) ?_
  refine wp_of (uf_X1_runo _ _ _ _ _ _ _ _ _ _) ?_
  refine wp_in2 ?_
  refine wp_of (uf_X1_note _ _ _ _) ?_
  refine wp_ifn (by decide) ?_
  refine wp_ck (i_inb (by decide) (by rw [show (((0 : Int32) + (1 : Int32))).toInt = 1 from by decide]; (try simp only [is_len]); omega)) ?_
  refine wp_nm (fun y7 h7 => ?_)
  subst h7
  refine wp_of (uf_X1_note_19 _ _ _) ?_
  refine wp_nm (fun y8 h8 => ?_)
  subst h8
  refine wp_so2 ?_
  show wp _ _
  refine wp_ifp (by decide) ?_
  refine wp_so3 ?_
  show wp _ _
  refine wp_so3 ?_
  show wp _ _
  refine wp_so3 ?_
  show wp _ _
  exact wp_so3 ⟨rfl, rfl, rfl⟩

set_option maxRecDepth 20000 in
theorem ac8_4_2 (x b : Int32) (tr : List Int32) (hl : tr.length = 24) : wp (fX1_call 700 (fX1_run 700 42) (4 : Int32) (4 : Int32) (2 : Int32) x (0 : Int32) (0 : Int32) b tr) (cu3 (fun r0 r1 r2 => r0 = ((x ^^^ b) - ((2 : Int32) + b)) ∧ r1 = ((((0 : Int32) + (1 : Int32)) + (1 : Int32)) + (1 : Int32)) ∧ r2 = (mm_is (mm_is (mm_is tr (0 : Int32) (mm_ig mm_OWN (((4 : Int32) * (4 : Int32)) + (2 : Int32)))) ((0 : Int32) + (1 : Int32)) (mm_ig mm_OWN (((4 : Int32) * (mm_ig mm_ABOVE (4 : Int32))) + (2 : Int32)))) (((0 : Int32) + (1 : Int32)) + (1 : Int32)) (mm_ig mm_OWN (((4 : Int32) * (mm_ig mm_ABOVE (4 : Int32))) + (0 : Int32)))))) := by
  refine wp_of (uf_X1_call _ _ _ _ _ _ _ _ _ _) ?_
  refine wp_of (uf_X1_call_6 _ _ _ _ _ _ _ _ _ _ _ _) ?_
  refine wp_ifn (by decide) ?_
  refine wp_ifn (by decide) ?_
  refine wp_ck (by decide) ?_
  refine wp_ifn (by decide) ?_
  refine wp_ifn (by decide) ?_
  refine wp_ck (by decide) ?_
  refine wp_ck (by decide) ?_
  refine wp_in3 ?_
  refine wp_of (uf_X1_run _ _ _ _ _ _ _ _ _ _) ?_
  refine wp_of (uf_X1_runo _ _ _ _ _ _ _ _ _ _) ?_
  refine wp_in2 ?_
  refine wp_of (uf_X1_note _ _ _ _) ?_
  refine wp_ifn (by decide) ?_
  refine wp_ck (i_inb (by decide) (by rw [show ((0 : Int32)).toInt = 0 from by decide]; (try simp only [is_len]); omega)) ?_
  refine wp_nm (fun y1 h1 => ?_)
  subst h1
  refine wp_of (uf_X1_note_19 _ _ _) ?_
  refine wp_nm (fun y2 h2 => ?_)
  subst h2
  refine wp_so2 ?_
  show wp _ _
  refine wp_ifn (by decide) ?_
  refine wp_ifn (by decide) ?_
  refine wp_ifn (by decide) ?_
  refine wp_ifn (by decide) ?_
  refine wp_ifn (by decide) ?_
  refine wp_ifn (by decide) ?_
  refine wp_ifn (by decide) ?_
  refine wp_ifn (by decide) ?_
  refine wp_ifp (by decide) ?_
  refine wp_in3 ?_
  refine wp_of (uf_X1_call _ _ _ _ _ _ _ _ _ _) ?_
  refine wp_of (uf_X1_call_6 _ _ _ _ _ _ _ _ _ _ _ _) ?_
  refine wp_ifn (by decide) ?_
  refine wp_ifn (by decide) ?_
  refine wp_ck (by decide) ?_
  refine wp_ifn (by decide) ?_
  refine wp_ifn (by decide) ?_
  refine wp_ck (by decide) ?_
  refine wp_ck (by decide) ?_
  refine wp_in3 ?_
  refine wp_of (uf_X1_run _ _ _ _ _ _ _ _ _ _) ?_
  refine wp_of (uf_X1_runo _ _ _ _ _ _ _ _ _ _) ?_
  refine wp_in2 ?_
  refine wp_of (uf_X1_note _ _ _ _) ?_
  refine wp_ifn (by decide) ?_
  refine wp_ck (i_inb (by decide) (by rw [show (((0 : Int32) + (1 : Int32))).toInt = 1 from by decide]; (try simp only [is_len]); omega)) ?_
  refine wp_nm (fun y3 h3 => ?_)
  subst h3
  refine wp_of (uf_X1_note_19 _ _ _) ?_
  refine wp_nm (fun y4 h4 => ?_)
  subst h4
  refine wp_so2 ?_
  show wp _ _
  refine wp_ifn (by decide) ?_
  refine wp_ifn (by decide) ?_
  refine wp_ifn (by decide) ?_
  refine wp_ifp (by decide) ?_
  refine wp_so3 ?_
  show wp _ _
  refine wp_so3 ?_
  show wp _ _
  refine wp_in3 ?_
  refine wp_of (uf_X1_call _ _ _ _ _ _ _ _ _ _) ?_
  refine wp_of (uf_X1_call_6 _ _ _ _ _ _ _ _ _ _ _ _) ?_
  refine wp_ifn (by decide) ?_
  refine wp_ifn (by decide) ?_
  refine wp_ck (by decide) ?_
  refine wp_ifp (by decide) ?_
  refine wp_ck (by decide) ?_
  refine wp_nm (fun y5 h5 => ?_)
  subst h5
  refine wp_nm (fun y6 h6 => ?_)
  subst h6
  refine wp_of (uf_X1_call_6 _ _ _ _ _ _ _ _ _ _ _ _) ?_
  refine wp_ifn (by decide) ?_
  refine wp_ifn (by decide) ?_
  refine wp_ck (by decide) ?_
  refine wp_ifn (by decide) ?_
  refine wp_ifn (by decide) ?_
  refine wp_ck (by decide) ?_
  refine wp_ck (by decide) ?_
  refine wp_in3 ?_
  refine wp_of (uf_X1_run _ _ _ _ _ _ _ _ _ _) ?_
  refine wp_of (uf_X1_runo _ _ _ _ _ _ _ _ _ _) ?_
  refine wp_in2 ?_
  refine wp_of (uf_X1_note _ _ _ _) ?_
  refine wp_ifn (by decide) ?_
  refine wp_ck (i_inb (by decide) (by rw [show ((((0 : Int32) + (1 : Int32)) + (1 : Int32))).toInt = 2 from by decide]; (try simp only [is_len]); omega)) ?_
  refine wp_nm (fun y7 h7 => ?_)
  subst h7
  refine wp_of (uf_X1_note_19 _ _ _) ?_
  refine wp_nm (fun y8 h8 => ?_)
  subst h8
  refine wp_so2 ?_
  show wp _ _
  refine wp_ifp (by decide) ?_
  refine wp_so3 ?_
  show wp _ _
  refine wp_so3 ?_
  show wp _ _
  refine wp_so3 ?_
  show wp _ _
  exact wp_so3 ⟨rfl, rfl, rfl⟩

set_option maxRecDepth 20000 in
theorem ac8_4_3 (x b : Int32) (tr : List Int32) (hl : tr.length = 24) : wp (fX1_call 700 (fX1_run 700 42) (4 : Int32) (4 : Int32) (3 : Int32) x (0 : Int32) (0 : Int32) b tr) (cu3 (fun r0 r1 r2 => r0 = (((x + b) * (2 : Int32)) - (((1 : Int32) ^^^ b) - ((2 : Int32) + b))) ∧ r1 = (((((((0 : Int32) + (1 : Int32)) + (1 : Int32)) + (1 : Int32)) + (1 : Int32)) + (1 : Int32)) + (1 : Int32)) ∧ r2 = (mm_is (mm_is (mm_is (mm_is (mm_is (mm_is tr (0 : Int32) (mm_ig mm_OWN (((4 : Int32) * (mm_ig mm_ABOVE (4 : Int32))) + (3 : Int32)))) ((0 : Int32) + (1 : Int32)) (mm_ig mm_OWN (((4 : Int32) * (mm_ig mm_ABOVE (4 : Int32))) + (1 : Int32)))) (((0 : Int32) + (1 : Int32)) + (1 : Int32)) (mm_ig mm_OWN (((4 : Int32) * (mm_ig mm_ABOVE (4 : Int32))) + (0 : Int32)))) ((((0 : Int32) + (1 : Int32)) + (1 : Int32)) + (1 : Int32)) (mm_ig mm_OWN (((4 : Int32) * (4 : Int32)) + (2 : Int32)))) (((((0 : Int32) + (1 : Int32)) + (1 : Int32)) + (1 : Int32)) + (1 : Int32)) (mm_ig mm_OWN (((4 : Int32) * (mm_ig mm_ABOVE (4 : Int32))) + (2 : Int32)))) ((((((0 : Int32) + (1 : Int32)) + (1 : Int32)) + (1 : Int32)) + (1 : Int32)) + (1 : Int32)) (mm_ig mm_OWN (((4 : Int32) * (mm_ig mm_ABOVE (4 : Int32))) + (0 : Int32)))))) := by
  refine wp_of (uf_X1_call _ _ _ _ _ _ _ _ _ _) ?_
  refine wp_of (uf_X1_call_6 _ _ _ _ _ _ _ _ _ _ _ _) ?_
  refine wp_ifn (by decide) ?_
  refine wp_ifn (by decide) ?_
  refine wp_ck (by decide) ?_
  refine wp_ifp (by decide) ?_
  refine wp_ck (by decide) ?_
  refine wp_nm (fun y1 h1 => ?_)
  subst h1
  refine wp_nm (fun y2 h2 => ?_)
  subst h2
  refine wp_of (uf_X1_call_6 _ _ _ _ _ _ _ _ _ _ _ _) ?_
  refine wp_ifn (by decide) ?_
  refine wp_ifn (by decide) ?_
  refine wp_ck (by decide) ?_
  refine wp_ifn (by decide) ?_
  refine wp_ifn (by decide) ?_
  refine wp_ck (by decide) ?_
  refine wp_ck (by decide) ?_
  refine wp_in3 ?_
  refine wp_of (uf_X1_run _ _ _ _ _ _ _ _ _ _) ?_
  refine wp_of (uf_X1_runo _ _ _ _ _ _ _ _ _ _) ?_
  refine wp_in2 ?_
  refine wp_of (uf_X1_note _ _ _ _) ?_
  refine wp_ifn (by decide) ?_
  refine wp_ck (i_inb (by decide) (by rw [show ((0 : Int32)).toInt = 0 from by decide]; (try simp only [is_len]); omega)) ?_
  refine wp_nm (fun y3 h3 => ?_)
  subst h3
  refine wp_of (uf_X1_note_19 _ _ _) ?_
  refine wp_nm (fun y4 h4 => ?_)
  subst h4
  refine wp_so2 ?_
  show wp _ _
  refine wp_ifn (by decide) ?_
  refine wp_ifp (by decide) ?_
  refine wp_in3 ?_
  refine wp_of (uf_X1_call _ _ _ _ _ _ _ _ _ _) ?_
  refine wp_of (uf_X1_call_6 _ _ _ _ _ _ _ _ _ _ _ _) ?_
  refine wp_ifn (by decide) ?_
  refine wp_ifn (by decide) ?_
  refine wp_ck (by decide) ?_
  refine wp_ifp (by decide) ?_
  refine wp_ck (by decide) ?_
  refine wp_nm (fun y5 h5 => ?_)
  subst h5
  refine wp_nm (fun y6 h6 => ?_)
  subst h6
  refine wp_of (uf_X1_call_6 _ _ _ _ _ _ _ _ _ _ _ _) ?_
  refine wp_ifn (by decide) ?_
  refine wp_ifn (by decide) ?_
  refine wp_ck (by decide) ?_
  refine wp_ifn (by decide) ?_
  refine wp_ifn (by decide) ?_
  refine wp_ck (by decide) ?_
  refine wp_ck (by decide) ?_
  refine wp_in3 ?_
  refine wp_of (uf_X1_run _ _ _ _ _ _ _ _ _ _) ?_
  refine wp_of (uf_X1_runo _ _ _ _ _ _ _ _ _ _) ?_
  refine wp_in2 ?_
  refine wp_of (uf_X1_note _ _ _ _) ?_
  refine wp_ifn (by decide) ?_
  refine wp_ck (i_inb (by decide) (by rw [show (((0 : Int32) + (1 : Int32))).toInt = 1 from by decide]; (try simp only [is_len]); omega)) ?_
  refine wp_nm (fun y7 h7 => ?_)
  subst h7
  refine wp_of (uf_X1_note_19 _ _ _) ?_
  refine wp_nm (fun y8 h8 => ?_)
  subst h8
  refine wp_so2 ?_
  show wp _ _
  refine wp_ifn (by decide) ?_
  refine wp_ifn (by decide) ?_
  refine wp_ifp (by decide) ?_
  refine wp_in3 ?_
  refine wp_of (uf_X1_call _ _ _ _ _ _ _ _ _ _) ?_
  refine wp_of (uf_X1_call_6 _ _ _ _ _ _ _ _ _ _ _ _) ?_
  refine wp_ifn (by decide) ?_
  refine wp_ifn (by decide) ?_
  refine wp_ck (by decide) ?_
  refine wp_ifp (by decide) ?_
  refine wp_ck (by decide) ?_
  refine wp_nm (fun y9 h9 => ?_)
  subst h9
  refine wp_nm (fun y10 h10 => ?_)
  subst h10
  refine wp_of (uf_X1_call_6 _ _ _ _ _ _ _ _ _ _ _ _) ?_
  refine wp_ifn (by decide) ?_
  refine wp_ifn (by decide) ?_
  refine wp_ck (by decide) ?_
  refine wp_ifn (by decide) ?_
  refine wp_ifn (by decide) ?_
  refine wp_ck (by decide) ?_
  refine wp_ck (by decide) ?_
  refine wp_in3 ?_
  refine wp_of (uf_X1_run _ _ _ _ _ _ _ _ _ _) ?_
  refine wp_of (uf_X1_runo _ _ _ _ _ _ _ _ _ _) ?_
  refine wp_in2 ?_
  refine wp_of (uf_X1_note _ _ _ _) ?_
  refine wp_ifn (by decide) ?_
  refine wp_ck (i_inb (by decide) (by rw [show ((((0 : Int32) + (1 : Int32)) + (1 : Int32))).toInt = 2 from by decide]; (try simp only [is_len]); omega)) ?_
  refine wp_nm (fun y11 h11 => ?_)
  subst h11
  refine wp_of (uf_X1_note_19 _ _ _) ?_
  refine wp_nm (fun y12 h12 => ?_)
  subst h12
  refine wp_so2 ?_
  show wp _ _
  refine wp_ifp (by decide) ?_
  refine wp_so3 ?_
  show wp _ _
  refine wp_so3 ?_
  show wp _ _
  refine wp_so3 ?_
  show wp _ _
  refine wp_so3 ?_
  show wp _ _
  refine wp_in3 ?_
  refine wp_of (uf_X1_call _ _ _ _ _ _ _ _ _ _) ?_
  refine wp_of (uf_X1_call_6 _ _ _ _ _ _ _ _ _ _ _ _) ?_
  refine wp_ifn (by decide) ?_
  refine wp_ifn (by decide) ?_
  refine wp_ck (by decide) ?_
  refine wp_ifn (by decide) ?_
  refine wp_ifn (by decide) ?_
  refine wp_ck (by decide) ?_
  refine wp_ck (by decide) ?_
  refine wp_in3 ?_
  refine wp_of (uf_X1_run _ _ _ _ _ _ _ _ _ _) ?_
  refine wp_of (uf_X1_runo _ _ _ _ _ _ _ _ _ _) ?_
  refine wp_in2 ?_
  refine wp_of (uf_X1_note _ _ _ _) ?_
  refine wp_ifn (by decide) ?_
  refine wp_ck (i_inb (by decide) (by rw [show (((((0 : Int32) + (1 : Int32)) + (1 : Int32)) + (1 : Int32))).toInt = 3 from by decide]; (try simp only [is_len]); omega)) ?_
  refine wp_nm (fun y13 h13 => ?_)
  subst h13
  refine wp_of (uf_X1_note_19 _ _ _) ?_
  refine wp_nm (fun y14 h14 => ?_)
  subst h14
  refine wp_so2 ?_
  show wp _ _
  refine wp_ifn (by decide) ?_
  refine wp_ifn (by decide) ?_
  refine wp_ifn (by decide) ?_
  refine wp_ifn (by decide) ?_
  refine wp_ifn (by decide) ?_
  refine wp_ifn (by decide) ?_
  refine wp_ifn (by decide) ?_
  refine wp_ifn (by decide) ?_
  refine wp_ifp (by decide) ?_
  refine wp_in3 ?_
  refine wp_of (uf_X1_call _ _ _ _ _ _ _ _ _ _) ?_
  refine wp_of (uf_X1_call_6 _ _ _ _ _ _ _ _ _ _ _ _) ?_
  refine wp_ifn (by decide) ?_
  refine wp_ifn (by decide) ?_
  refine wp_ck (by decide) ?_
  refine wp_ifn (by decide) ?_
  refine wp_ifn (by decide) ?_
  refine wp_ck (by decide) ?_
  refine wp_ck (by decide) ?_
  refine wp_in3 ?_
  refine wp_of (uf_X1_run _ _ _ _ _ _ _ _ _ _) ?_
  refine wp_of (uf_X1_runo _ _ _ _ _ _ _ _ _ _) ?_
  refine wp_in2 ?_
  refine wp_of (uf_X1_note _ _ _ _) ?_
  refine wp_ifn (by decide) ?_
  refine wp_ck (i_inb (by decide) (by rw [show ((((((0 : Int32) + (1 : Int32)) + (1 : Int32)) + (1 : Int32)) + (1 : Int32))).toInt = 4 from by decide]; (try simp only [is_len]); omega)) ?_
  refine wp_nm (fun y15 h15 => ?_)
  subst h15
  refine wp_of (uf_X1_note_19 _ _ _) ?_
  refine wp_nm (fun y16 h16 => ?_)
  subst h16
  refine wp_so2 ?_
  show wp _ _
  refine wp_ifn (by decide) ?_
  refine wp_ifn (by decide) ?_
  refine wp_ifn (by decide) ?_
  refine wp_ifp (by decide) ?_
  refine wp_so3 ?_
  show wp _ _
  refine wp_so3 ?_
  show wp _ _
  refine wp_in3 ?_
  refine wp_of (uf_X1_call _ _ _ _ _ _ _ _ _ _) ?_
  refine wp_of (uf_X1_call_6 _ _ _ _ _ _ _ _ _ _ _ _) ?_
  refine wp_ifn (by decide) ?_
  refine wp_ifn (by decide) ?_
  refine wp_ck (by decide) ?_
  refine wp_ifp (by decide) ?_
  refine wp_ck (by decide) ?_
  refine wp_nm (fun y17 h17 => ?_)
  subst h17
  refine wp_nm (fun y18 h18 => ?_)
  subst h18
  refine wp_of (uf_X1_call_6 _ _ _ _ _ _ _ _ _ _ _ _) ?_
  refine wp_ifn (by decide) ?_
  refine wp_ifn (by decide) ?_
  refine wp_ck (by decide) ?_
  refine wp_ifn (by decide) ?_
  refine wp_ifn (by decide) ?_
  refine wp_ck (by decide) ?_
  refine wp_ck (by decide) ?_
  refine wp_in3 ?_
  refine wp_of (uf_X1_run _ _ _ _ _ _ _ _ _ _) ?_
  refine wp_of (uf_X1_runo _ _ _ _ _ _ _ _ _ _) ?_
  refine wp_in2 ?_
  refine wp_of (uf_X1_note _ _ _ _) ?_
  refine wp_ifn (by decide) ?_
  refine wp_ck (i_inb (by decide) (by rw [show (((((((0 : Int32) + (1 : Int32)) + (1 : Int32)) + (1 : Int32)) + (1 : Int32)) + (1 : Int32))).toInt = 5 from by decide]; (try simp only [is_len]); omega)) ?_
  refine wp_nm (fun y19 h19 => ?_)
  subst h19
  refine wp_of (uf_X1_note_19 _ _ _) ?_
  refine wp_nm (fun y20 h20 => ?_)
  subst h20
  refine wp_so2 ?_
  show wp _ _
  refine wp_ifp (by decide) ?_
  refine wp_so3 ?_
  show wp _ _
  refine wp_so3 ?_
  show wp _ _
  refine wp_so3 ?_
  show wp _ _
  refine wp_so3 ?_
  show wp _ _
  refine wp_so3 ?_
  show wp _ _
  exact wp_so3 ⟨rfl, rfl, rfl⟩

set_option maxRecDepth 20000 in
theorem ac8_5_0 (x b : Int32) (tr : List Int32) (hl : tr.length = 24) : wp (fX1_call 700 (fX1_run 700 42) (5 : Int32) (5 : Int32) (0 : Int32) x (0 : Int32) (0 : Int32) b tr) (cu3 (fun r0 r1 r2 => r0 = (x + b) ∧ r1 = ((0 : Int32) + (1 : Int32)) ∧ r2 = (mm_is tr (0 : Int32) (mm_ig mm_OWN (((4 : Int32) * (mm_ig mm_ABOVE (mm_ig mm_ABOVE (mm_ig mm_ABOVE (5 : Int32))))) + (0 : Int32)))))) := by
  refine wp_of (uf_X1_call _ _ _ _ _ _ _ _ _ _) ?_
  refine wp_of (uf_X1_call_6 _ _ _ _ _ _ _ _ _ _ _ _) ?_
  refine wp_ifn (by decide) ?_
  refine wp_ifn (by decide) ?_
  refine wp_ck (by decide) ?_
  refine wp_ifp (by decide) ?_
  refine wp_ck (by decide) ?_
  refine wp_nm (fun y1 h1 => ?_)
  subst h1
  refine wp_nm (fun y2 h2 => ?_)
  subst h2
  refine wp_of (uf_X1_call_6 _ _ _ _ _ _ _ _ _ _ _ _) ?_
  refine wp_ifn (by decide) ?_
  refine wp_ifn (by decide) ?_
  refine wp_ck (by decide) ?_
  refine wp_ifp (by decide) ?_
  refine wp_ck (by decide) ?_
  refine wp_nm (fun y3 h3 => ?_)
  subst h3
  refine wp_nm (fun y4 h4 => ?_)
  subst h4
  refine wp_of (uf_X1_call_6 _ _ _ _ _ _ _ _ _ _ _ _) ?_
  refine wp_ifn (by decide) ?_
  refine wp_ifn (by decide) ?_
  refine wp_ck (by decide) ?_
  refine wp_ifp (by decide) ?_
  refine wp_ck (by decide) ?_
  refine wp_nm (fun y5 h5 => ?_)
  subst h5
  refine wp_nm (fun y6 h6 => ?_)
  subst h6
  refine wp_of (uf_X1_call_6 _ _ _ _ _ _ _ _ _ _ _ _) ?_
  refine wp_ifn (by decide) ?_
  refine wp_ifn (by decide) ?_
  refine wp_ck (by decide) ?_
  refine wp_ifn (by decide) ?_
  refine wp_ifn (by decide) ?_
  refine wp_ck (by decide) ?_
  refine wp_ck (by decide) ?_
  refine wp_in3 ?_
  refine wp_of (uf_X1_run _ _ _ _ _ _ _ _ _ _) ?_
  refine wp_of (uf_X1_runo _ _ _ _ _ _ _ _ _ _) ?_
  refine wp_in2 ?_
  refine wp_of (uf_X1_note _ _ _ _) ?_
  refine wp_ifn (by decide) ?_
  refine wp_ck (i_inb (by decide) (by rw [show ((0 : Int32)).toInt = 0 from by decide]; (try simp only [is_len]); omega)) ?_
  refine wp_nm (fun y7 h7 => ?_)
  subst h7
  refine wp_of (uf_X1_note_19 _ _ _) ?_
  refine wp_nm (fun y8 h8 => ?_)
  subst h8
  refine wp_so2 ?_
  show wp _ _
  refine wp_ifp (by decide) ?_
  refine wp_so3 ?_
  show wp _ _
  exact wp_so3 ⟨rfl, rfl, rfl⟩

set_option maxRecDepth 20000 in
theorem ac8_5_1 (x b : Int32) (tr : List Int32) (hl : tr.length = 24) : wp (fX1_call 700 (fX1_run 700 42) (5 : Int32) (5 : Int32) (1 : Int32) x (0 : Int32) (0 : Int32) b tr) (cu3 (fun r0 r1 r2 => r0 = (-(((x + (1 : Int32)) + b) * (2 : Int32))) ∧ r1 = (((((0 : Int32) + (1 : Int32)) + (1 : Int32)) + (1 : Int32)) + (1 : Int32)) ∧ r2 = (mm_is (mm_is (mm_is (mm_is tr (0 : Int32) (mm_ig mm_OWN (((4 : Int32) * (mm_ig mm_ABOVE (5 : Int32))) + (1 : Int32)))) ((0 : Int32) + (1 : Int32)) (mm_ig mm_OWN (((4 : Int32) * (mm_ig mm_ABOVE (mm_ig mm_ABOVE (5 : Int32)))) + (1 : Int32)))) (((0 : Int32) + (1 : Int32)) + (1 : Int32)) (mm_ig mm_OWN (((4 : Int32) * (mm_ig mm_ABOVE (mm_ig mm_ABOVE (mm_ig mm_ABOVE (5 : Int32))))) + (1 : Int32)))) ((((0 : Int32) + (1 : Int32)) + (1 : Int32)) + (1 : Int32)) (mm_ig mm_OWN (((4 : Int32) * (mm_ig mm_ABOVE (mm_ig mm_ABOVE (mm_ig mm_ABOVE (5 : Int32))))) + (0 : Int32)))))) := by
  refine wp_of (uf_X1_call _ _ _ _ _ _ _ _ _ _) ?_
  refine wp_of (uf_X1_call_6 _ _ _ _ _ _ _ _ _ _ _ _) ?_
  refine wp_ifn (by decide) ?_
  refine wp_ifn (by decide) ?_
  refine wp_ck (by decide) ?_
  refine wp_ifp (by decide) ?_
  refine wp_ck (by decide) ?_
  refine wp_nm (fun y1 h1 => ?_)
  subst h1
  refine wp_nm (fun y2 h2 => ?_)
  subst h2
  refine wp_of (uf_X1_call_6 _ _ _ _ _ _ _ _ _ _ _ _) ?_
  refine wp_ifn (by decide) ?_
  refine wp_ifn (by decide) ?_
  refine wp_ck (by decide) ?_
  refine wp_ifn (by decide) ?_
  refine wp_ifn (by decide) ?_
  refine wp_ck (by decide) ?_
  refine wp_ck (by decide) ?_
  refine wp_in3 ?_
  refine wp_of (uf_X1_run _ _ _ _ _ _ _ _ _ _) ?_
  refine wp_of (uf_X1_runo _ _ _ _ _ _ _ _ _ _) ?_
  refine wp_in2 ?_
  refine wp_of (uf_X1_note _ _ _ _) ?_
  refine wp_ifn (by decide) ?_
  refine wp_ck (i_inb (by decide) (by rw [show ((0 : Int32)).toInt = 0 from by decide]; (try simp only [is_len]); omega)) ?_
  refine wp_nm (fun y3 h3 => ?_)
  subst h3
  refine wp_of (uf_X1_note_19 _ _ _) ?_
  refine wp_nm (fun y4 h4 => ?_)
  subst h4
  refine wp_so2 ?_
  show wp _ _
  refine wp_ifn (by decide) ?_
  refine wp_ifn (by decide) ?_
  refine wp_ifn (by decide) ?_
  refine wp_ifn (by decide) ?_
  refine wp_ifn (by decide) ?_
  refine wp_ifn (by decide) ?_
  refine wp_ifn (by decide) ?_
  refine wp_ifp (by decide) ?_
  refine wp_in3 ?_
  refine wp_of (uf_X1_call _ _ _ _ _ _ _ _ _ _) ?_
  refine wp_of (uf_X1_call_6 _ _ _ _ _ _ _ _ _ _ _ _) ?_
  refine wp_ifn (by decide) ?_
  refine wp_ifn (by decide) ?_
  refine wp_ck (by decide) ?_
  refine wp_ifn (by decide) ?_
  refine wp_ifn (by decide) ?_
  refine wp_ck (by decide) ?_
  refine wp_ck (by decide) ?_
  refine wp_in3 ?_
  refine wp_of (uf_X1_run _ _ _ _ _ _ _ _ _ _) ?_
  refine wp_of (uf_X1_runo _ _ _ _ _ _ _ _ _ _) ?_
  refine wp_in2 ?_
  refine wp_of (uf_X1_note _ _ _ _) ?_
  refine wp_ifn (by decide) ?_
  refine wp_ck (i_inb (by decide) (by rw [show (((0 : Int32) + (1 : Int32))).toInt = 1 from by decide]; (try simp only [is_len]); omega)) ?_
  refine wp_nm (fun y5 h5 => ?_)
  subst h5
  refine wp_of (uf_X1_note_19 _ _ _) ?_
  refine wp_nm (fun y6 h6 => ?_)
  subst h6
  refine wp_so2 ?_
  show wp _ _
  refine wp_ifn (by decide) ?_
  refine wp_ifn (by decide) ?_
  refine wp_ifn (by decide) ?_
  refine wp_ifn (by decide) ?_
  refine wp_ifn (by decide) ?_
  refine wp_ifp (by decide) ?_
  refine wp_in3 ?_
  refine wp_of (uf_X1_call _ _ _ _ _ _ _ _ _ _) ?_
  refine wp_of (uf_X1_call_6 _ _ _ _ _ _ _ _ _ _ _ _) ?_
  refine wp_ifn (by decide) ?_
  refine wp_ifn (by decide) ?_
  refine wp_ck (by decide) ?_
  refine wp_ifn (by decide) ?_
  refine wp_ifn (by decide) ?_
  refine wp_ck (by decide) ?_
  refine wp_ck (by decide) ?_
  refine wp_in3 ?_
  refine wp_of (uf_X1_run _ _ _ _ _ _ _ _ _ _) ?_
  refine wp_of (uf_X1_runo _ _ _ _ _ _ _ _ _ _) ?_
  refine wp_in2 ?_
  refine wp_of (uf_X1_note _ _ _ _) ?_
  refine wp_ifn (by decide) ?_
  refine wp_ck (i_inb (by decide) (by rw [show ((((0 : Int32) + (1 : Int32)) + (1 : Int32))).toInt = 2 from by decide]; (try simp only [is_len]); omega)) ?_
  refine wp_nm (fun y7 h7 => ?_)
  subst h7
  refine wp_of (uf_X1_note_19 _ _ _) ?_
  refine wp_nm (fun y8 h8 => ?_)
  subst h8
  refine wp_so2 ?_
  show wp _ _
  refine wp_ifn (by decide) ?_
  refine wp_ifn (by decide) ?_
  refine wp_ifp (by decide) ?_
  refine wp_in3 ?_
  refine wp_of (uf_X1_call _ _ _ _ _ _ _ _ _ _) ?_
  refine wp_of (uf_X1_call_6 _ _ _ _ _ _ _ _ _ _ _ _) ?_
  refine wp_ifn (by decide) ?_
  refine wp_ifn (by decide) ?_
  refine wp_ck (by decide) ?_
  refine wp_ifp (by decide) ?_
  refine wp_ck (by decide) ?_
  refine wp_nm (fun y9 h9 => ?_)
  subst h9
  refine wp_nm (fun y10 h10 => ?_)
  subst h10
  refine wp_of (uf_X1_call_6 _ _ _ _ _ _ _ _ _ _ _ _) ?_
  refine wp_ifn (by decide) ?_
  refine wp_ifn (by decide) ?_
  refine wp_ck (by decide) ?_
  refine wp_ifp (by decide) ?_
  refine wp_ck (by decide) ?_
  refine wp_nm (fun y11 h11 => ?_)
  subst h11
  refine wp_nm (fun y12 h12 => ?_)
  subst h12
  refine wp_of (uf_X1_call_6 _ _ _ _ _ _ _ _ _ _ _ _) ?_
  refine wp_ifn (by decide) ?_
  refine wp_ifn (by decide) ?_
  refine wp_ck (by decide) ?_
  refine wp_ifp (by decide) ?_
  refine wp_ck (by decide) ?_
  refine wp_nm (fun y13 h13 => ?_)
  subst h13
  refine wp_nm (fun y14 h14 => ?_)
  subst h14
  refine wp_of (uf_X1_call_6 _ _ _ _ _ _ _ _ _ _ _ _) ?_
  refine wp_ifn (by decide) ?_
  refine wp_ifn (by decide) ?_
  refine wp_ck (by decide) ?_
  refine wp_ifn (by decide) ?_
  refine wp_ifn (by decide) ?_
  refine wp_ck (by decide) ?_
  refine wp_ck (by decide) ?_
  refine wp_in3 ?_
  refine wp_of (uf_X1_run _ _ _ _ _ _ _ _ _ _) ?_
  refine wp_of (uf_X1_runo _ _ _ _ _ _ _ _ _ _) ?_
  refine wp_in2 ?_
  refine wp_of (uf_X1_note _ _ _ _) ?_
  refine wp_ifn (by decide) ?_
  refine wp_ck (i_inb (by decide) (by rw [show (((((0 : Int32) + (1 : Int32)) + (1 : Int32)) + (1 : Int32))).toInt = 3 from by decide]; (try simp only [is_len]); omega)) ?_
  refine wp_nm (fun y15 h15 => ?_)
  subst h15
  refine wp_of (uf_X1_note_19 _ _ _) ?_
  refine wp_nm (fun y16 h16 => ?_)
  subst h16
  refine wp_so2 ?_
  show wp _ _
  refine wp_ifp (by decide) ?_
  refine wp_so3 ?_
  show wp _ _
  refine wp_so3 ?_
  show wp _ _
  refine wp_so3 ?_
  show wp _ _
  refine wp_so3 ?_
  show wp _ _
  refine wp_so3 ?_
  show wp _ _
  refine wp_so3 ?_
  show wp _ _
  refine wp_so3 ?_
  show wp _ _
  exact wp_so3 ⟨rfl, rfl, rfl⟩

set_option maxRecDepth 20000 in
theorem ac8_5_2 (x b : Int32) (tr : List Int32) (hl : tr.length = 24) : wp (fX1_call 700 (fX1_run 700 42) (5 : Int32) (5 : Int32) (2 : Int32) x (0 : Int32) (0 : Int32) b tr) (cu3 (fun r0 r1 r2 => r0 = ((x ^^^ b) * (3 : Int32)) ∧ r1 = (((0 : Int32) + (1 : Int32)) + (1 : Int32)) ∧ r2 = (mm_is (mm_is tr (0 : Int32) (mm_ig mm_OWN (((4 : Int32) * (mm_ig mm_ABOVE (5 : Int32))) + (2 : Int32)))) ((0 : Int32) + (1 : Int32)) (mm_ig mm_OWN (((4 : Int32) * (mm_ig mm_ABOVE (mm_ig mm_ABOVE (mm_ig mm_ABOVE (5 : Int32))))) + (2 : Int32)))))) := by
  refine wp_of (uf_X1_call _ _ _ _ _ _ _ _ _ _) ?_
  refine wp_of (uf_X1_call_6 _ _ _ _ _ _ _ _ _ _ _ _) ?_
  refine wp_ifn (by decide) ?_
  refine wp_ifn (by decide) ?_
  refine wp_ck (by decide) ?_
  refine wp_ifp (by decide) ?_
  refine wp_ck (by decide) ?_
  refine wp_nm (fun y1 h1 => ?_)
  subst h1
  refine wp_nm (fun y2 h2 => ?_)
  subst h2
  refine wp_of (uf_X1_call_6 _ _ _ _ _ _ _ _ _ _ _ _) ?_
  refine wp_ifn (by decide) ?_
  refine wp_ifn (by decide) ?_
  refine wp_ck (by decide) ?_
  refine wp_ifn (by decide) ?_
  refine wp_ifn (by decide) ?_
  refine wp_ck (by decide) ?_
  refine wp_ck (by decide) ?_
  refine wp_in3 ?_
  refine wp_of (uf_X1_run _ _ _ _ _ _ _ _ _ _) ?_
  refine wp_of (uf_X1_runo _ _ _ _ _ _ _ _ _ _) ?_
  refine wp_in2 ?_
  refine wp_of (uf_X1_note _ _ _ _) ?_
  refine wp_ifn (by decide) ?_
  refine wp_ck (i_inb (by decide) (by rw [show ((0 : Int32)).toInt = 0 from by decide]; (try simp only [is_len]); omega)) ?_
  refine wp_nm (fun y3 h3 => ?_)
  subst h3
  refine wp_of (uf_X1_note_19 _ _ _) ?_
  refine wp_nm (fun y4 h4 => ?_)
  subst h4
  refine wp_so2 ?_
  show wp _ _
  refine wp_ifn (by decide) ?_
  refine wp_ifn (by decide) ?_
  refine wp_ifn (by decide) ?_
  refine wp_ifn (by decide) ?_
  refine wp_ifn (by decide) ?_
  refine wp_ifn (by decide) ?_
  refine wp_ifp (by decide) ?_
  refine wp_in3 ?_
  refine wp_of (uf_X1_call _ _ _ _ _ _ _ _ _ _) ?_
  refine wp_of (uf_X1_call_6 _ _ _ _ _ _ _ _ _ _ _ _) ?_
  refine wp_ifn (by decide) ?_
  refine wp_ifn (by decide) ?_
  refine wp_ck (by decide) ?_
  refine wp_ifp (by decide) ?_
  refine wp_ck (by decide) ?_
  refine wp_nm (fun y5 h5 => ?_)
  subst h5
  refine wp_nm (fun y6 h6 => ?_)
  subst h6
  refine wp_of (uf_X1_call_6 _ _ _ _ _ _ _ _ _ _ _ _) ?_
  refine wp_ifn (by decide) ?_
  refine wp_ifn (by decide) ?_
  refine wp_ck (by decide) ?_
  refine wp_ifn (by decide) ?_
  refine wp_ifn (by decide) ?_
  refine wp_ck (by decide) ?_
  refine wp_ck (by decide) ?_
  refine wp_in3 ?_
  refine wp_of (uf_X1_run _ _ _ _ _ _ _ _ _ _) ?_
  refine wp_of (uf_X1_runo _ _ _ _ _ _ _ _ _ _) ?_
  refine wp_in2 ?_
  refine wp_of (uf_X1_note _ _ _ _) ?_
  refine wp_ifn (by decide) ?_
  refine wp_ck (i_inb (by decide) (by rw [show (((0 : Int32) + (1 : Int32))).toInt = 1 from by decide]; (try simp only [is_len]); omega)) ?_
  refine wp_nm (fun y7 h7 => ?_)
  subst h7
  refine wp_of (uf_X1_note_19 _ _ _) ?_
  refine wp_nm (fun y8 h8 => ?_)
  subst h8
  refine wp_so2 ?_
  show wp _ _
  refine wp_ifn (by decide) ?_
  refine wp_ifn (by decide) ?_
  refine wp_ifn (by decide) ?_
  refine wp_ifp (by decide) ?_
  refine wp_so3 ?_
  show wp _ _
  refine wp_so3 ?_
  show wp _ _
  refine wp_so3 ?_
  show wp _ _
  exact wp_so3 ⟨rfl, rfl, rfl⟩

set_option maxRecDepth 20000 in
theorem ac8_5_3 (x b : Int32) (tr : List Int32) (hl : tr.length = 24) : wp (fX1_call 700 (fX1_run 700 42) (5 : Int32) (5 : Int32) (3 : Int32) x (0 : Int32) (0 : Int32) b tr) (cu3 (fun r0 r1 r2 => r0 = (((-(((x + (1 : Int32)) + b) * (2 : Int32))) - (((1 : Int32) ^^^ b) * (3 : Int32))) ^^^ (5 : Int32)) ∧ r1 = (((((((((0 : Int32) + (1 : Int32)) + (1 : Int32)) + (1 : Int32)) + (1 : Int32)) + (1 : Int32)) + (1 : Int32)) + (1 : Int32)) + (1 : Int32)) ∧ r2 = (mm_is (mm_is (mm_is (mm_is (mm_is (mm_is (mm_is (mm_is tr (0 : Int32) (mm_ig mm_OWN (((4 : Int32) * (5 : Int32)) + (3 : Int32)))) ((0 : Int32) + (1 : Int32)) (mm_ig mm_OWN (((4 : Int32) * (mm_ig mm_ABOVE (mm_ig mm_ABOVE (mm_ig mm_ABOVE (5 : Int32))))) + (3 : Int32)))) (((0 : Int32) + (1 : Int32)) + (1 : Int32)) (mm_ig mm_OWN (((4 : Int32) * (mm_ig mm_ABOVE (5 : Int32))) + (1 : Int32)))) ((((0 : Int32) + (1 : Int32)) + (1 : Int32)) + (1 : Int32)) (mm_ig mm_OWN (((4 : Int32) * (mm_ig mm_ABOVE (mm_ig mm_ABOVE (5 : Int32)))) + (1 : Int32)))) (((((0 : Int32) + (1 : Int32)) + (1 : Int32)) + (1 : Int32)) + (1 : Int32)) (mm_ig mm_OWN (((4 : Int32) * (mm_ig mm_ABOVE (mm_ig mm_ABOVE (mm_ig mm_ABOVE (5 : Int32))))) + (1 : Int32)))) ((((((0 : Int32) + (1 : Int32)) + (1 : Int32)) + (1 : Int32)) + (1 : Int32)) + (1 : Int32)) (mm_ig mm_OWN (((4 : Int32) * (mm_ig mm_ABOVE (mm_ig mm_ABOVE (mm_ig mm_ABOVE (5 : Int32))))) + (0 : Int32)))) (((((((0 : Int32) + (1 : Int32)) + (1 : Int32)) + (1 : Int32)) + (1 : Int32)) + (1 : Int32)) + (1 : Int32)) (mm_ig mm_OWN (((4 : Int32) * (mm_ig mm_ABOVE (5 : Int32))) + (2 : Int32)))) ((((((((0 : Int32) + (1 : Int32)) + (1 : Int32)) + (1 : Int32)) + (1 : Int32)) + (1 : Int32)) + (1 : Int32)) + (1 : Int32)) (mm_ig mm_OWN (((4 : Int32) * (mm_ig mm_ABOVE (mm_ig mm_ABOVE (mm_ig mm_ABOVE (5 : Int32))))) + (2 : Int32)))))) := by
  refine wp_of (uf_X1_call _ _ _ _ _ _ _ _ _ _) ?_
  refine wp_of (uf_X1_call_6 _ _ _ _ _ _ _ _ _ _ _ _) ?_
  refine wp_ifn (by decide) ?_
  refine wp_ifn (by decide) ?_
  refine wp_ck (by decide) ?_
  refine wp_ifn (by decide) ?_
  refine wp_ifn (by decide) ?_
  refine wp_ck (by decide) ?_
  refine wp_ck (by decide) ?_
  refine wp_in3 ?_
  refine wp_of (uf_X1_run _ _ _ _ _ _ _ _ _ _) ?_
  refine wp_of (uf_X1_runo _ _ _ _ _ _ _ _ _ _) ?_
  refine wp_in2 ?_
  refine wp_of (uf_X1_note _ _ _ _) ?_
  refine wp_ifn (by decide) ?_
  refine wp_ck (i_inb (by decide) (by rw [show ((0 : Int32)).toInt = 0 from by decide]; (try simp only [is_len]); omega)) ?_
  refine wp_nm (fun y1 h1 => ?_)
  subst h1
  refine wp_of (uf_X1_note_19 _ _ _) ?_
  refine wp_nm (fun y2 h2 => ?_)
  subst h2
  refine wp_so2 ?_
  show wp _ _
  refine wp_ifn (by decide) ?_
  refine wp_ifn (by decide) ?_
  refine wp_ifn (by decide) ?_
  refine wp_ifn (by decide) ?_
  refine wp_ifn (by decide) ?_
  refine wp_ifn (by decide) ?_
  refine wp_ifn (by decide) ?_
  refine wp_ifn (by decide) ?_
  refine wp_ifn (by decide) ?_
  refine wp_ifp (by decide) ?_
  refine wp_in3 ?_
  refine wp_of (uf_X1_call _ _ _ _ _ _ _ _ _ _) ?_
  refine wp_of (uf_X1_call_6 _ _ _ _ _ _ _ _ _ _ _ _) ?_
  refine wp_ifn (by decide) ?_
  refine wp_ifn (by decide) ?_
  refine wp_ck (by decide) ?_
  refine wp_ifp (by decide) ?_
  refine wp_ck (by decide) ?_
  refine wp_nm (fun y3 h3 => ?_)
  subst h3
  refine wp_nm (fun y4 h4 => ?_)
  subst h4
  refine wp_of (uf_X1_call_6 _ _ _ _ _ _ _ _ _ _ _ _) ?_
  refine wp_ifn (by decide) ?_
  refine wp_ifn (by decide) ?_
  refine wp_ck (by decide) ?_
  refine wp_ifp (by decide) ?_
  refine wp_ck (by decide) ?_
  refine wp_nm (fun y5 h5 => ?_)
  subst h5
  refine wp_nm (fun y6 h6 => ?_)
  subst h6
  refine wp_of (uf_X1_call_6 _ _ _ _ _ _ _ _ _ _ _ _) ?_
  refine wp_ifn (by decide) ?_
  refine wp_ifn (by decide) ?_
  refine wp_ck (by decide) ?_
  refine wp_ifn (by decide) ?_
  refine wp_ifn (by decide) ?_
  refine wp_ck (by decide) ?_
  refine wp_ck (by decide) ?_
  refine wp_in3 ?_
  refine wp_of (uf_X1_run _ _ _ _ _ _ _ _ _ _) ?_
  refine wp_of (uf_X1_runo _ _ _ _ _ _ _ _ _ _) ?_
  refine wp_in2 ?_
  refine wp_of (uf_X1_note _ _ _ _) ?_
  refine wp_ifn (by decide) ?_
  refine wp_ck (i_inb (by decide) (by rw [show (((0 : Int32) + (1 : Int32))).toInt = 1 from by decide]; (try simp only [is_len]); omega)) ?_
  refine wp_nm (fun y7 h7 => ?_)
  subst h7
  refine wp_of (uf_X1_note_19 _ _ _) ?_
  refine wp_nm (fun y8 h8 => ?_)
  subst h8
  refine wp_so2 ?_
  show wp _ _
  refine wp_ifn (by decide) ?_
  refine wp_ifp (by decide) ?_
  refine wp_in3 ?_
  refine wp_of (uf_X1_call _ _ _ _ _ _ _ _ _ _) ?_
  refine wp_of (uf_X1_call_6 _ _ _ _ _ _ _ _ _ _ _ _) ?_
  refine wp_ifn (by decide) ?_
  refine wp_ifn (by decide) ?_
  refine wp_ck (by decide) ?_
  refine wp_ifp (by decide) ?_
  refine wp_ck (by decide) ?_
  refine wp_nm (fun y9 h9 => ?_)
  subst h9
  refine wp_nm (fun y10 h10 => ?_)
  subst h10
  refine wp_of (uf_X1_call_6 _ _ _ _ _ _ _ _ _ _ _ _) ?_
  refine wp_ifn (by decide) ?_
  refine wp_ifn (by decide) ?_
  refine wp_ck (by decide) ?_
  refine wp_ifn (by decide) ?_
  refine wp_ifn (by decide) ?_
  refine wp_ck (by decide) ?_
  refine wp_ck (by decide) ?_
  refine wp_in3 ?_
  refine wp_of (uf_X1_run _ _ _ _ _ _ _ _ _ _) ?_
  refine wp_of (uf_X1_runo _ _ _ _ _ _ _ _ _ _) ?_
  refine wp_in2 ?_
  refine wp_of (uf_X1_note _ _ _ _) ?_
  refine wp_ifn (by decide) ?_
  refine wp_ck (i_inb (by decide) (by rw [show ((((0 : Int32) + (1 : Int32)) + (1 : Int32))).toInt = 2 from by decide]; (try simp only [is_len]); omega)) ?_
  refine wp_nm (fun y11 h11 => ?_)
  subst h11
  refine wp_of (uf_X1_note_19 _ _ _) ?_
  refine wp_nm (fun y12 h12 => ?_)
  subst h12
  refine wp_so2 ?_
  show wp _ _
  refine wp_ifn (by decide) ?_
  refine wp_ifn (by decide) ?_
  refine wp_ifn (by decide) ?_
  refine wp_ifn (by decide) ?_
  refine wp_ifn (by decide) ?_
  refine wp_ifn (by decide) ?_
  refine wp_ifn (by decide) ?_
  refine wp_ifp (by decide) ?_
  refine wp_in3 ?_
  refine wp_of (uf_X1_call _ _ _ _ _ _ _ _ _ _) ?_
  refine wp_of (uf_X1_call_6 _ _ _ _ _ _ _ _ _ _ _ _) ?_
  refine wp_ifn (by decide) ?_
  refine wp_ifn (by decide) ?_
  refine wp_ck (by decide) ?_
  refine wp_ifn (by decide) ?_
  refine wp_ifn (by decide) ?_
  refine wp_ck (by decide) ?_
  refine wp_ck (by decide) ?_
  refine wp_in3 ?_
  refine wp_of (uf_X1_run _ _ _ _ _ _ _ _ _ _) ?_
  refine wp_of (uf_X1_runo _ _ _ _ _ _ _ _ _ _) ?_
  refine wp_in2 ?_
  refine wp_of (uf_X1_note _ _ _ _) ?_
  refine wp_ifn (by decide) ?_
  refine wp_ck (i_inb (by decide) (by rw [show (((((0 : Int32) + (1 : Int32)) + (1 : Int32)) + (1 : Int32))).toInt = 3 from by decide]; (try simp only [is_len]); omega)) ?_
  refine wp_nm (fun y13 h13 => ?_)
  subst h13
  refine wp_of (uf_X1_note_19 _ _ _) ?_
  refine wp_nm (fun y14 h14 => ?_)
  subst h14
  refine wp_so2 ?_
  show wp _ _
  refine wp_ifn (by decide) ?_
  refine wp_ifn (by decide) ?_
  refine wp_ifn (by decide) ?_
  refine wp_ifn (by decide) ?_
  refine wp_ifn (by decide) ?_
  refine wp_ifp (by decide) ?_
  refine wp_in3 ?_
  refine wp_of (uf_X1_call _ _ _ _ _ _ _ _ _ _) ?_
  refine wp_of (uf_X1_call_6 _ _ _ _ _ _ _ _ _ _ _ _) ?_
  refine wp_ifn (by decide) ?_
  refine wp_ifn (by decide) ?_
  refine wp_ck (by decide) ?_
  refine wp_ifn (by decide) ?_
  refine wp_ifn (by decide) ?_
  refine wp_ck (by decide) ?_
  refine wp_ck (by decide) ?_
  refine wp_in3 ?_
  refine wp_of (uf_X1_run _ _ _ _ _ _ _ _ _ _) ?_
  refine wp_of (uf_X1_runo _ _ _ _ _ _ _ _ _ _) ?_
  refine wp_in2 ?_
  refine wp_of (uf_X1_note _ _ _ _) ?_
  refine wp_ifn (by decide) ?_
  refine wp_ck (i_inb (by decide) (by rw [show ((((((0 : Int32) + (1 : Int32)) + (1 : Int32)) + (1 : Int32)) + (1 : Int32))).toInt = 4 from by decide]; (try simp only [is_len]); omega)) ?_
  refine wp_nm (fun y15 h15 => ?_)
  subst h15
  refine wp_of (uf_X1_note_19 _ _ _) ?_
  refine wp_nm (fun y16 h16 => ?_)
  subst h16
  refine wp_so2 ?_
  show wp _ _
  refine wp_ifn (by decide) ?_
  refine wp_ifn (by decide) ?_
  refine wp_ifp (by decide) ?_
  refine wp_in3 ?_
  refine wp_of (uf_X1_call _ _ _ _ _ _ _ _ _ _) ?_
  refine wp_of (uf_X1_call_6 _ _ _ _ _ _ _ _ _ _ _ _) ?_
  refine wp_ifn (by decide) ?_
  refine wp_ifn (by decide) ?_
  refine wp_ck (by decide) ?_
  refine wp_ifp (by decide) ?_
  refine wp_ck (by decide) ?_
  refine wp_nm (fun y17 h17 => ?_)
  subst h17
  refine wp_nm (fun y18 h18 => ?_)
  subst h18
  refine wp_of (uf_X1_call_6 _ _ _ _ _ _ _ _ _ _ _ _) ?_
  refine wp_ifn (by decide) ?_
  refine wp_ifn (by decide) ?_
  refine wp_ck (by decide) ?_
  refine wp_ifp (by decide) ?_
  refine wp_ck (by decide) ?_
  refine wp_nm (fun y19 h19 => ?_)
  subst h19
  refine wp_nm (fun y20 h20 => ?_)
  subst h20
  refine wp_of (uf_X1_call_6 _ _ _ _ _ _ _ _ _ _ _ _) ?_
  refine wp_ifn (by decide) ?_
  refine wp_ifn (by decide) ?_
  refine wp_ck (by decide) ?_
  refine wp_ifp (by decide) ?_
  refine wp_ck (by decide) ?_
  refine wp_nm (fun y21 h21 => ?_)
  subst h21
  refine wp_nm (fun y22 h22 => ?_)
  subst h22
  refine wp_of (uf_X1_call_6 _ _ _ _ _ _ _ _ _ _ _ _) ?_
  refine wp_ifn (by decide) ?_
  refine wp_ifn (by decide) ?_
  refine wp_ck (by decide) ?_
  refine wp_ifn (by decide) ?_
  refine wp_ifn (by decide) ?_
  refine wp_ck (by decide) ?_
  refine wp_ck (by decide) ?_
  refine wp_in3 ?_
  refine wp_of (uf_X1_run _ _ _ _ _ _ _ _ _ _) ?_
  refine wp_of (uf_X1_runo _ _ _ _ _ _ _ _ _ _) ?_
  refine wp_in2 ?_
  refine wp_of (uf_X1_note _ _ _ _) ?_
  refine wp_ifn (by decide) ?_
  refine wp_ck (i_inb (by decide) (by rw [show (((((((0 : Int32) + (1 : Int32)) + (1 : Int32)) + (1 : Int32)) + (1 : Int32)) + (1 : Int32))).toInt = 5 from by decide]; (try simp only [is_len]); omega)) ?_
  refine wp_nm (fun y23 h23 => ?_)
  subst h23
  refine wp_of (uf_X1_note_19 _ _ _) ?_
  refine wp_nm (fun y24 h24 => ?_)
  subst h24
  refine wp_so2 ?_
  show wp _ _
  refine wp_ifp (by decide) ?_
  refine wp_so3 ?_
  show wp _ _
  refine wp_so3 ?_
  show wp _ _
  refine wp_so3 ?_
  show wp _ _
  refine wp_so3 ?_
  show wp _ _
  refine wp_so3 ?_
  show wp _ _
  refine wp_so3 ?_
  show wp _ _
  refine wp_so3 ?_
  show wp _ _
  refine wp_so3 ?_
  show wp _ _
  refine wp_in3 ?_
  refine wp_of (uf_X1_call _ _ _ _ _ _ _ _ _ _) ?_
  refine wp_of (uf_X1_call_6 _ _ _ _ _ _ _ _ _ _ _ _) ?_
  refine wp_ifn (by decide) ?_
  refine wp_ifn (by decide) ?_
  refine wp_ck (by decide) ?_
  refine wp_ifp (by decide) ?_
  refine wp_ck (by decide) ?_
  refine wp_nm (fun y25 h25 => ?_)
  subst h25
  refine wp_nm (fun y26 h26 => ?_)
  subst h26
  refine wp_of (uf_X1_call_6 _ _ _ _ _ _ _ _ _ _ _ _) ?_
  refine wp_ifn (by decide) ?_
  refine wp_ifn (by decide) ?_
  refine wp_ck (by decide) ?_
  refine wp_ifn (by decide) ?_
  refine wp_ifn (by decide) ?_
  refine wp_ck (by decide) ?_
  refine wp_ck (by decide) ?_
  refine wp_in3 ?_
  refine wp_of (uf_X1_run _ _ _ _ _ _ _ _ _ _) ?_
  refine wp_of (uf_X1_runo _ _ _ _ _ _ _ _ _ _) ?_
  refine wp_in2 ?_
  refine wp_of (uf_X1_note _ _ _ _) ?_
  refine wp_ifn (by decide) ?_
  refine wp_ck (i_inb (by decide) (by rw [show ((((((((0 : Int32) + (1 : Int32)) + (1 : Int32)) + (1 : Int32)) + (1 : Int32)) + (1 : Int32)) + (1 : Int32))).toInt = 6 from by decide]; (try simp only [is_len]); omega)) ?_
  refine wp_nm (fun y27 h27 => ?_)
  subst h27
  refine wp_of (uf_X1_note_19 _ _ _) ?_
  refine wp_nm (fun y28 h28 => ?_)
  subst h28
  refine wp_so2 ?_
  show wp _ _
  refine wp_ifn (by decide) ?_
  refine wp_ifn (by decide) ?_
  refine wp_ifn (by decide) ?_
  refine wp_ifn (by decide) ?_
  refine wp_ifn (by decide) ?_
  refine wp_ifn (by decide) ?_
  refine wp_ifp (by decide) ?_
  refine wp_in3 ?_
  refine wp_of (uf_X1_call _ _ _ _ _ _ _ _ _ _) ?_
  refine wp_of (uf_X1_call_6 _ _ _ _ _ _ _ _ _ _ _ _) ?_
  refine wp_ifn (by decide) ?_
  refine wp_ifn (by decide) ?_
  refine wp_ck (by decide) ?_
  refine wp_ifp (by decide) ?_
  refine wp_ck (by decide) ?_
  refine wp_nm (fun y29 h29 => ?_)
  subst h29
  refine wp_nm (fun y30 h30 => ?_)
  subst h30
  refine wp_of (uf_X1_call_6 _ _ _ _ _ _ _ _ _ _ _ _) ?_
  refine wp_ifn (by decide) ?_
  refine wp_ifn (by decide) ?_
  refine wp_ck (by decide) ?_
  refine wp_ifn (by decide) ?_
  refine wp_ifn (by decide) ?_
  refine wp_ck (by decide) ?_
  refine wp_ck (by decide) ?_
  refine wp_in3 ?_
  refine wp_of (uf_X1_run _ _ _ _ _ _ _ _ _ _) ?_
  refine wp_of (uf_X1_runo _ _ _ _ _ _ _ _ _ _) ?_
  refine wp_in2 ?_
  refine wp_of (uf_X1_note _ _ _ _) ?_
  refine wp_ifn (by decide) ?_
  refine wp_ck (i_inb (by decide) (by rw [show (((((((((0 : Int32) + (1 : Int32)) + (1 : Int32)) + (1 : Int32)) + (1 : Int32)) + (1 : Int32)) + (1 : Int32)) + (1 : Int32))).toInt = 7 from by decide]; (try simp only [is_len]); omega)) ?_
  refine wp_nm (fun y31 h31 => ?_)
  subst h31
  refine wp_of (uf_X1_note_19 _ _ _) ?_
  refine wp_nm (fun y32 h32 => ?_)
  subst h32
  refine wp_so2 ?_
  show wp _ _
  refine wp_ifn (by decide) ?_
  refine wp_ifn (by decide) ?_
  refine wp_ifn (by decide) ?_
  refine wp_ifp (by decide) ?_
  refine wp_so3 ?_
  show wp _ _
  refine wp_so3 ?_
  show wp _ _
  refine wp_so3 ?_
  show wp _ _
  refine wp_so3 ?_
  show wp _ _
  refine wp_so3 ?_
  show wp _ _
  refine wp_so3 ?_
  show wp _ _
  refine wp_so3 ?_
  show wp _ _
  exact wp_so3 ⟨rfl, rfl, rfl⟩

set_option maxRecDepth 20000 in
theorem ac8_6_0 (x b : Int32) (tr : List Int32) (hl : tr.length = 24) : wp (fX1_call 700 (fX1_run 700 42) (6 : Int32) (6 : Int32) (0 : Int32) x (0 : Int32) (0 : Int32) b tr) (cu3 (fun r0 r1 r2 => r0 = (((x + b) + (3 : Int32)) * (2 : Int32)) ∧ r1 = ((((0 : Int32) + (1 : Int32)) + (1 : Int32)) + (1 : Int32)) ∧ r2 = (mm_is (mm_is (mm_is tr (0 : Int32) (mm_ig mm_OWN (((4 : Int32) * (6 : Int32)) + (0 : Int32)))) ((0 : Int32) + (1 : Int32)) (mm_ig mm_OWN (((4 : Int32) * (mm_ig mm_ABOVE (6 : Int32))) + (0 : Int32)))) (((0 : Int32) + (1 : Int32)) + (1 : Int32)) (mm_ig mm_OWN (((4 : Int32) * (mm_ig mm_ABOVE (mm_ig mm_ABOVE (6 : Int32)))) + (0 : Int32)))))) := by
  refine wp_of (uf_X1_call _ _ _ _ _ _ _ _ _ _) ?_
  refine wp_of (uf_X1_call_6 _ _ _ _ _ _ _ _ _ _ _ _) ?_
  refine wp_ifn (by decide) ?_
  refine wp_ifn (by decide) ?_
  refine wp_ck (by decide) ?_
  refine wp_ifn (by decide) ?_
  refine wp_ifn (by decide) ?_
  refine wp_ck (by decide) ?_
  refine wp_ck (by decide) ?_
  refine wp_in3 ?_
  refine wp_of (uf_X1_run _ _ _ _ _ _ _ _ _ _) ?_
  refine wp_of (uf_X1_runo _ _ _ _ _ _ _ _ _ _) ?_
  refine wp_in2 ?_
  refine wp_of (uf_X1_note _ _ _ _) ?_
  refine wp_ifn (by decide) ?_
  refine wp_ck (i_inb (by decide) (by rw [show ((0 : Int32)).toInt = 0 from by decide]; (try simp only [is_len]); omega)) ?_
  refine wp_nm (fun y1 h1 => ?_)
  subst h1
  refine wp_of (uf_X1_note_19 _ _ _) ?_
  refine wp_nm (fun y2 h2 => ?_)
  subst h2
  refine wp_so2 ?_
  show wp _ _
  refine wp_ifn (by decide) ?_
  refine wp_ifn (by decide) ?_
  refine wp_ifn (by decide) ?_
  refine wp_ifn (by decide) ?_
  refine wp_ifn (by decide) ?_
  refine wp_ifn (by decide) ?_
  refine wp_ifn (by decide) ?_
  refine wp_ifn (by decide) ?_
  refine wp_ifn (by decide) ?_
  refine wp_ifn (by decide) ?_
  refine wp_ifp (by decide) ?_
  refine wp_in3 ?_
  refine wp_of (uf_X1_call _ _ _ _ _ _ _ _ _ _) ?_
  refine wp_of (uf_X1_call_6 _ _ _ _ _ _ _ _ _ _ _ _) ?_
  refine wp_ifn (by decide) ?_
  refine wp_ifn (by decide) ?_
  refine wp_ck (by decide) ?_
  refine wp_ifn (by decide) ?_
  refine wp_ifn (by decide) ?_
  refine wp_ck (by decide) ?_
  refine wp_ck (by decide) ?_
  refine wp_in3 ?_
  refine wp_of (uf_X1_run _ _ _ _ _ _ _ _ _ _) ?_
  refine wp_of (uf_X1_runo _ _ _ _ _ _ _ _ _ _) ?_
  refine wp_in2 ?_
  refine wp_of (uf_X1_note _ _ _ _) ?_
  refine wp_ifn (by decide) ?_
  refine wp_ck (i_inb (by decide) (by rw [show (((0 : Int32) + (1 : Int32))).toInt = 1 from by decide]; (try simp only [is_len]); omega)) ?_
  refine wp_nm (fun y3 h3 => ?_)
  subst h3
  refine wp_of (uf_X1_note_19 _ _ _) ?_
  refine wp_nm (fun y4 h4 => ?_)
  subst h4
  refine wp_so2 ?_
  show wp _ _
  refine wp_ifn (by decide) ?_
  refine wp_ifn (by decide) ?_
  refine wp_ifn (by decide) ?_
  refine wp_ifn (by decide) ?_
  refine wp_ifp (by decide) ?_
  refine wp_in3 ?_
  refine wp_of (uf_X1_call _ _ _ _ _ _ _ _ _ _) ?_
  refine wp_of (uf_X1_call_6 _ _ _ _ _ _ _ _ _ _ _ _) ?_
  refine wp_ifn (by decide) ?_
  refine wp_ifn (by decide) ?_
  refine wp_ck (by decide) ?_
  refine wp_ifn (by decide) ?_
  refine wp_ifn (by decide) ?_
  refine wp_ck (by decide) ?_
  refine wp_ck (by decide) ?_
  refine wp_in3 ?_
  refine wp_of (uf_X1_run _ _ _ _ _ _ _ _ _ _) ?_
  refine wp_of (uf_X1_runo _ _ _ _ _ _ _ _ _ _) ?_
  refine wp_in2 ?_
  refine wp_of (uf_X1_note _ _ _ _) ?_
  refine wp_ifn (by decide) ?_
  refine wp_ck (i_inb (by decide) (by rw [show ((((0 : Int32) + (1 : Int32)) + (1 : Int32))).toInt = 2 from by decide]; (try simp only [is_len]); omega)) ?_
  refine wp_nm (fun y5 h5 => ?_)
  subst h5
  refine wp_of (uf_X1_note_19 _ _ _) ?_
  refine wp_nm (fun y6 h6 => ?_)
  subst h6
  refine wp_so2 ?_
  show wp _ _
  refine wp_ifp (by decide) ?_
  refine wp_so3 ?_
  show wp _ _
  refine wp_so3 ?_
  show wp _ _
  refine wp_so3 ?_
  show wp _ _
  refine wp_so3 ?_
  show wp _ _
  refine wp_so3 ?_
  show wp _ _
  exact wp_so3 ⟨rfl, rfl, rfl⟩

set_option maxRecDepth 20000 in
theorem ac8_6_1 (x b : Int32) (tr : List Int32) (hl : tr.length = 24) : wp (fX1_call 700 (fX1_run 700 42) (6 : Int32) (6 : Int32) (1 : Int32) x (0 : Int32) (0 : Int32) b tr) (cu3 (fun r0 r1 r2 => r0 = ((((x + b) + (3 : Int32)) * (2 : Int32)) * (2 : Int32)) ∧ r1 = (((((0 : Int32) + (1 : Int32)) + (1 : Int32)) + (1 : Int32)) + (1 : Int32)) ∧ r2 = (mm_is (mm_is (mm_is (mm_is tr (0 : Int32) (mm_ig mm_OWN (((4 : Int32) * (mm_ig mm_ABOVE (mm_ig mm_ABOVE (6 : Int32)))) + (1 : Int32)))) ((0 : Int32) + (1 : Int32)) (mm_ig mm_OWN (((4 : Int32) * (6 : Int32)) + (0 : Int32)))) (((0 : Int32) + (1 : Int32)) + (1 : Int32)) (mm_ig mm_OWN (((4 : Int32) * (mm_ig mm_ABOVE (6 : Int32))) + (0 : Int32)))) ((((0 : Int32) + (1 : Int32)) + (1 : Int32)) + (1 : Int32)) (mm_ig mm_OWN (((4 : Int32) * (mm_ig mm_ABOVE (mm_ig mm_ABOVE (6 : Int32)))) + (0 : Int32)))))) := by
  refine wp_of (uf_X1_call _ _ _ _ _ _ _ _ _ _) ?_
  refine wp_of (uf_X1_call_6 _ _ _ _ _ _ _ _ _ _ _ _) ?_
  refine wp_ifn (by decide) ?_
  refine wp_ifn (by decide) ?_
  refine wp_ck (by decide) ?_
  refine wp_ifp (by decide) ?_
  refine wp_ck (by decide) ?_
  refine wp_nm (fun y1 h1 => ?_)
  subst h1
  refine wp_nm (fun y2 h2 => ?_)
  subst h2
  refine wp_of (uf_X1_call_6 _ _ _ _ _ _ _ _ _ _ _ _) ?_
  refine wp_ifn (by decide) ?_
  refine wp_ifn (by decide) ?_
  refine wp_ck (by decide) ?_
  refine wp_ifp (by decide) ?_
  refine wp_ck (by decide) ?_
  refine wp_nm (fun y3 h3 => ?_)
  subst h3
  refine wp_nm (fun y4 h4 => ?_)
  subst h4
  refine wp_of (uf_X1_call_6 _ _ _ _ _ _ _ _ _ _ _ _) ?_
  refine wp_ifn (by decide) ?_
  refine wp_ifn (by decide) ?_
  refine wp_ck (by decide) ?_
  refine wp_ifn (by decide) ?_
  refine wp_ifn (by decide) ?_
  refine wp_ck (by decide) ?_
  refine wp_ck (by decide) ?_
  refine wp_in3 ?_
  refine wp_of (uf_X1_run _ _ _ _ _ _ _ _ _ _) ?_
  refine wp_of (uf_X1_runo _ _ _ _ _ _ _ _ _ _) ?_
  refine wp_in2 ?_
  refine wp_of (uf_X1_note _ _ _ _) ?_
  refine wp_ifn (by decide) ?_
  refine wp_ck (i_inb (by decide) (by rw [show ((0 : Int32)).toInt = 0 from by decide]; (try simp only [is_len]); omega)) ?_
  refine wp_nm (fun y5 h5 => ?_)
  subst h5
  refine wp_of (uf_X1_note_19 _ _ _) ?_
  refine wp_nm (fun y6 h6 => ?_)
  subst h6
  refine wp_so2 ?_
  show wp _ _
  refine wp_ifn (by decide) ?_
  refine wp_ifn (by decide) ?_
  refine wp_ifp (by decide) ?_
  refine wp_in3 ?_
  refine wp_of (uf_X1_call _ _ _ _ _ _ _ _ _ _) ?_
  refine wp_of (uf_X1_call_6 _ _ _ _ _ _ _ _ _ _ _ _) ?_
  refine wp_ifn (by decide) ?_
  refine wp_ifn (by decide) ?_
  refine wp_ck (by decide) ?_
  refine wp_ifn (by decide) ?_
  refine wp_ifn (by decide) ?_
  refine wp_ck (by decide) ?_
  refine wp_ck (by decide) ?_
  refine wp_in3 ?_
  refine wp_of (uf_X1_run _ _ _ _ _ _ _ _ _ _) ?_
  refine wp_of (uf_X1_runo _ _ _ _ _ _ _ _ _ _) ?_
  refine wp_in2 ?_
  refine wp_of (uf_X1_note _ _ _ _) ?_
  refine wp_ifn (by decide) ?_
  refine wp_ck (i_inb (by decide) (by rw [show (((0 : Int32) + (1 : Int32))).toInt = 1 from by decide]; (try simp only [is_len]); omega)) ?_
  refine wp_nm (fun y7 h7 => ?_)
  subst h7
  refine wp_of (uf_X1_note_19 _ _ _) ?_
  refine wp_nm (fun y8 h8 => ?_)
  subst h8
  refine wp_so2 ?_
  show wp _ _
  refine wp_ifn (by decide) ?_
  refine wp_ifn (by decide) ?_
  refine wp_ifn (by decide) ?_
  refine wp_ifn (by decide) ?_
  refine wp_ifn (by decide) ?_
  refine wp_ifn (by decide) ?_
  refine wp_ifn (by decide) ?_
  refine wp_ifn (by decide) ?_
  refine wp_ifn (by decide) ?_
  refine wp_ifn (by decide) ?_
  refine wp_ifp (by decide) ?_
  refine wp_in3 ?_
  refine wp_of (uf_X1_call _ _ _ _ _ _ _ _ _ _) ?_
  refine wp_of (uf_X1_call_6 _ _ _ _ _ _ _ _ _ _ _ _) ?_
  refine wp_ifn (by decide) ?_
  refine wp_ifn (by decide) ?_
  refine wp_ck (by decide) ?_
  refine wp_ifn (by decide) ?_
  refine wp_ifn (by decide) ?_
  refine wp_ck (by decide) ?_
  refine wp_ck (by decide) ?_
  refine wp_in3 ?_
  refine wp_of (uf_X1_run _ _ _ _ _ _ _ _ _ _) ?_
  refine wp_of (uf_X1_runo _ _ _ _ _ _ _ _ _ _) ?_
  refine wp_in2 ?_
  refine wp_of (uf_X1_note _ _ _ _) ?_
  refine wp_ifn (by decide) ?_
  refine wp_ck (i_inb (by decide) (by rw [show ((((0 : Int32) + (1 : Int32)) + (1 : Int32))).toInt = 2 from by decide]; (try simp only [is_len]); omega)) ?_
  refine wp_nm (fun y9 h9 => ?_)
  subst h9
  refine wp_of (uf_X1_note_19 _ _ _) ?_
  refine wp_nm (fun y10 h10 => ?_)
  subst h10
  refine wp_so2 ?_
  show wp _ _
  refine wp_ifn (by decide) ?_
  refine wp_ifn (by decide) ?_
  refine wp_ifn (by decide) ?_
  refine wp_ifn (by decide) ?_
  refine wp_ifp (by decide) ?_
  refine wp_in3 ?_
  refine wp_of (uf_X1_call _ _ _ _ _ _ _ _ _ _) ?_
  refine wp_of (uf_X1_call_6 _ _ _ _ _ _ _ _ _ _ _ _) ?_
  refine wp_ifn (by decide) ?_
  refine wp_ifn (by decide) ?_
  refine wp_ck (by decide) ?_
  refine wp_ifn (by decide) ?_
  refine wp_ifn (by decide) ?_
  refine wp_ck (by decide) ?_
  refine wp_ck (by decide) ?_
  refine wp_in3 ?_
  refine wp_of (uf_X1_run _ _ _ _ _ _ _ _ _ _) ?_
  refine wp_of (uf_X1_runo _ _ _ _ _ _ _ _ _ _) ?_
  refine wp_in2 ?_
  refine wp_of (uf_X1_note _ _ _ _) ?_
  refine wp_ifn (by decide) ?_
  refine wp_ck (i_inb (by decide) (by rw [show (((((0 : Int32) + (1 : Int32)) + (1 : Int32)) + (1 : Int32))).toInt = 3 from by decide]; (try simp only [is_len]); omega)) ?_
  refine wp_nm (fun y11 h11 => ?_)
  subst h11
  refine wp_of (uf_X1_note_19 _ _ _) ?_
  refine wp_nm (fun y12 h12 => ?_)
  subst h12
  refine wp_so2 ?_
  show wp _ _
  refine wp_ifp (by decide) ?_
  refine wp_so3 ?_
  show wp _ _
  refine wp_so3 ?_
  show wp _ _
  refine wp_so3 ?_
  show wp _ _
  refine wp_so3 ?_
  show wp _ _
  refine wp_so3 ?_
  show wp _ _
  refine wp_so3 ?_
  show wp _ _
  refine wp_so3 ?_
  show wp _ _
  exact wp_so3 ⟨rfl, rfl, rfl⟩

set_option maxRecDepth 20000 in
theorem ac8_6_2 (x b : Int32) (tr : List Int32) (hl : tr.length = 24) : wp (fX1_call 700 (fX1_run 700 42) (6 : Int32) (6 : Int32) (2 : Int32) x (0 : Int32) (0 : Int32) b tr) (cu3 (fun r0 r1 r2 => r0 = (x ^^^ b) ∧ r1 = ((0 : Int32) + (1 : Int32)) ∧ r2 = (mm_is tr (0 : Int32) (mm_ig mm_OWN (((4 : Int32) * (mm_ig mm_ABOVE (mm_ig mm_ABOVE (6 : Int32)))) + (2 : Int32)))))) := by
  refine wp_of (uf_X1_call _ _ _ _ _ _ _ _ _ _) ?_
  refine wp_of (uf_X1_call_6 _ _ _ _ _ _ _ _ _ _ _ _) ?_
  refine wp_ifn (by decide) ?_
  refine wp_ifn (by decide) ?_
  refine wp_ck (by decide) ?_
  refine wp_ifp (by decide) ?_
  refine wp_ck (by decide) ?_
  refine wp_nm (fun y1 h1 => ?_)
  subst h1
  refine wp_nm (fun y2 h2 => ?_)
  subst h2
  refine wp_of (uf_X1_call_6 _ _ _ _ _ _ _ _ _ _ _ _) ?_
  refine wp_ifn (by decide) ?_
  refine wp_ifn (by decide) ?_
  refine wp_ck (by decide) ?_
  refine wp_ifp (by decide) ?_
  refine wp_ck (by decide) ?_
  refine wp_nm (fun y3 h3 => ?_)
  subst h3
  refine wp_nm (fun y4 h4 => ?_)
  subst h4
  refine wp_of (uf_X1_call_6 _ _ _ _ _ _ _ _ _ _ _ _) ?_
  refine wp_ifn (by decide) ?_
  refine wp_ifn (by decide) ?_
  refine wp_ck (by decide) ?_
  refine wp_ifn (by decide) ?_
  refine wp_ifn (by decide) ?_
  refine wp_ck (by decide) ?_
  refine wp_ck (by decide) ?_
  refine wp_in3 ?_
  refine wp_of (uf_X1_run _ _ _ _ _ _ _ _ _ _) ?_
  refine wp_of (uf_X1_runo _ _ _ _ _ _ _ _ _ _) ?_
  refine wp_in2 ?_
  refine wp_of (uf_X1_note _ _ _ _) ?_
  refine wp_ifn (by decide) ?_
  refine wp_ck (i_inb (by decide) (by rw [show ((0 : Int32)).toInt = 0 from by decide]; (try simp only [is_len]); omega)) ?_
  refine wp_nm (fun y5 h5 => ?_)
  subst h5
  refine wp_of (uf_X1_note_19 _ _ _) ?_
  refine wp_nm (fun y6 h6 => ?_)
  subst h6
  refine wp_so2 ?_
  show wp _ _
  refine wp_ifn (by decide) ?_
  refine wp_ifn (by decide) ?_
  refine wp_ifn (by decide) ?_
  refine wp_ifp (by decide) ?_
  refine wp_so3 ?_
  show wp _ _
  exact wp_so3 ⟨rfl, rfl, rfl⟩

set_option maxRecDepth 20000 in
theorem ac8_6_3 (x b : Int32) (tr : List Int32) (hl : tr.length = 24) : wp (fX1_call 700 (fX1_run 700 42) (6 : Int32) (6 : Int32) (3 : Int32) x (0 : Int32) (0 : Int32) b tr) (cu3 (fun r0 r1 r2 => r0 = (((((x + b) + (3 : Int32)) * (2 : Int32)) * (2 : Int32)) - ((1 : Int32) ^^^ b)) ∧ r1 = (((((((0 : Int32) + (1 : Int32)) + (1 : Int32)) + (1 : Int32)) + (1 : Int32)) + (1 : Int32)) + (1 : Int32)) ∧ r2 = (mm_is (mm_is (mm_is (mm_is (mm_is (mm_is tr (0 : Int32) (mm_ig mm_OWN (((4 : Int32) * (mm_ig mm_ABOVE (mm_ig mm_ABOVE (6 : Int32)))) + (3 : Int32)))) ((0 : Int32) + (1 : Int32)) (mm_ig mm_OWN (((4 : Int32) * (mm_ig mm_ABOVE (mm_ig mm_ABOVE (6 : Int32)))) + (1 : Int32)))) (((0 : Int32) + (1 : Int32)) + (1 : Int32)) (mm_ig mm_OWN (((4 : Int32) * (6 : Int32)) + (0 : Int32)))) ((((0 : Int32) + (1 : Int32)) + (1 : Int32)) + (1 : Int32)) (mm_ig mm_OWN (((4 : Int32) * (mm_ig mm_ABOVE (6 : Int32))) + (0 : Int32)))) (((((0 : Int32) + (1 : Int32)) + (1 : Int32)) + (1 : Int32)) + (1 : Int32)) (mm_ig mm_OWN (((4 : Int32) * (mm_ig mm_ABOVE (mm_ig mm_ABOVE (6 : Int32)))) + (0 : Int32)))) ((((((0 : Int32) + (1 : Int32)) + (1 : Int32)) + (1 : Int32)) + (1 : Int32)) + (1 : Int32)) (mm_ig mm_OWN (((4 : Int32) * (mm_ig mm_ABOVE (mm_ig mm_ABOVE (6 : Int32)))) + (2 : Int32)))))) := by
  refine wp_of (uf_X1_call _ _ _ _ _ _ _ _ _ _) ?_
  refine wp_of (uf_X1_call_6 _ _ _ _ _ _ _ _ _ _ _ _) ?_
  refine wp_ifn (by decide) ?_
  refine wp_ifn (by decide) ?_
  refine wp_ck (by decide) ?_
  refine wp_ifp (by decide) ?_
  refine wp_ck (by decide) ?_
  refine wp_nm (fun y1 h1 => ?_)
  subst h1
  refine wp_nm (fun y2 h2 => ?_)
  subst h2
  refine wp_of (uf_X1_call_6 _ _ _ _ _ _ _ _ _ _ _ _) ?_
  refine wp_ifn (by decide) ?_
  refine wp_ifn (by decide) ?_
  refine wp_ck (by decide) ?_
  refine wp_ifp (by decide) ?_
  refine wp_ck (by decide) ?_
  refine wp_nm (fun y3 h3 => ?_)
  subst h3
  refine wp_nm (fun y4 h4 => ?_)
  subst h4
  refine wp_of (uf_X1_call_6 _ _ _ _ _ _ _ _ _ _ _ _) ?_
  refine wp_ifn (by decide) ?_
  refine wp_ifn (by decide) ?_
  refine wp_ck (by decide) ?_
  refine wp_ifn (by decide) ?_
  refine wp_ifn (by decide) ?_
  refine wp_ck (by decide) ?_
  refine wp_ck (by decide) ?_
  refine wp_in3 ?_
  refine wp_of (uf_X1_run _ _ _ _ _ _ _ _ _ _) ?_
  refine wp_of (uf_X1_runo _ _ _ _ _ _ _ _ _ _) ?_
  refine wp_in2 ?_
  refine wp_of (uf_X1_note _ _ _ _) ?_
  refine wp_ifn (by decide) ?_
  refine wp_ck (i_inb (by decide) (by rw [show ((0 : Int32)).toInt = 0 from by decide]; (try simp only [is_len]); omega)) ?_
  refine wp_nm (fun y5 h5 => ?_)
  subst h5
  refine wp_of (uf_X1_note_19 _ _ _) ?_
  refine wp_nm (fun y6 h6 => ?_)
  subst h6
  refine wp_so2 ?_
  show wp _ _
  refine wp_ifn (by decide) ?_
  refine wp_ifp (by decide) ?_
  refine wp_in3 ?_
  refine wp_of (uf_X1_call _ _ _ _ _ _ _ _ _ _) ?_
  refine wp_of (uf_X1_call_6 _ _ _ _ _ _ _ _ _ _ _ _) ?_
  refine wp_ifn (by decide) ?_
  refine wp_ifn (by decide) ?_
  refine wp_ck (by decide) ?_
  refine wp_ifp (by decide) ?_
  refine wp_ck (by decide) ?_
  refine wp_nm (fun y7 h7 => ?_)
  subst h7
  refine wp_nm (fun y8 h8 => ?_)
  subst h8
  refine wp_of (uf_X1_call_6 _ _ _ _ _ _ _ _ _ _ _ _) ?_
  refine wp_ifn (by decide) ?_
  refine wp_ifn (by decide) ?_
  refine wp_ck (by decide) ?_
  refine wp_ifp (by decide) ?_
  refine wp_ck (by decide) ?_
  refine wp_nm (fun y9 h9 => ?_)
  subst h9
  refine wp_nm (fun y10 h10 => ?_)
  subst h10
  refine wp_of (uf_X1_call_6 _ _ _ _ _ _ _ _ _ _ _ _) ?_
  refine wp_ifn (by decide) ?_
  refine wp_ifn (by decide) ?_
  refine wp_ck (by decide) ?_
  refine wp_ifn (by decide) ?_
  refine wp_ifn (by decide) ?_
  refine wp_ck (by decide) ?_
  refine wp_ck (by decide) ?_
  refine wp_in3 ?_
  refine wp_of (uf_X1_run _ _ _ _ _ _ _ _ _ _) ?_
  refine wp_of (uf_X1_runo _ _ _ _ _ _ _ _ _ _) ?_
  refine wp_in2 ?_
  refine wp_of (uf_X1_note _ _ _ _) ?_
  refine wp_ifn (by decide) ?_
  refine wp_ck (i_inb (by decide) (by rw [show (((0 : Int32) + (1 : Int32))).toInt = 1 from by decide]; (try simp only [is_len]); omega)) ?_
  refine wp_nm (fun y11 h11 => ?_)
  subst h11
  refine wp_of (uf_X1_note_19 _ _ _) ?_
  refine wp_nm (fun y12 h12 => ?_)
  subst h12
  refine wp_so2 ?_
  show wp _ _
  refine wp_ifn (by decide) ?_
  refine wp_ifn (by decide) ?_
  refine wp_ifp (by decide) ?_
  refine wp_in3 ?_
  refine wp_of (uf_X1_call _ _ _ _ _ _ _ _ _ _) ?_
  refine wp_of (uf_X1_call_6 _ _ _ _ _ _ _ _ _ _ _ _) ?_
  refine wp_ifn (by decide) ?_
  refine wp_ifn (by decide) ?_
  refine wp_ck (by decide) ?_
  refine wp_ifn (by decide) ?_
  refine wp_ifn (by decide) ?_
  refine wp_ck (by decide) ?_
  refine wp_ck (by decide) ?_
  refine wp_in3 ?_
  refine wp_of (uf_X1_run _ _ _ _ _ _ _ _ _ _) ?_
  refine wp_of (uf_X1_runo _ _ _ _ _ _ _ _ _ _) ?_
  refine wp_in2 ?_
  refine wp_of (uf_X1_note _ _ _ _) ?_
  refine wp_ifn (by decide) ?_
  refine wp_ck (i_inb (by decide) (by rw [show ((((0 : Int32) + (1 : Int32)) + (1 : Int32))).toInt = 2 from by decide]; (try simp only [is_len]); omega)) ?_
  refine wp_nm (fun y13 h13 => ?_)
  subst h13
  refine wp_of (uf_X1_note_19 _ _ _) ?_
  refine wp_nm (fun y14 h14 => ?_)
  subst h14
  refine wp_so2 ?_
  show wp _ _
  refine wp_ifn (by decide) ?_
  refine wp_ifn (by decide) ?_
  refine wp_ifn (by decide) ?_
  refine wp_ifn (by decide) ?_
  refine wp_ifn (by decide) ?_
  refine wp_ifn (by decide) ?_
  refine wp_ifn (by decide) ?_
  refine wp_ifn (by decide) ?_
  refine wp_ifn (by decide) ?_
  refine wp_ifn (by decide) ?_
  refine wp_ifp (by decide) ?_
  refine wp_in3 ?_
  refine wp_of (uf_X1_call _ _ _ _ _ _ _ _ _ _) ?_
  refine wp_of (uf_X1_call_6 _ _ _ _ _ _ _ _ _ _ _ _) ?_
  refine wp_ifn (by decide) ?_
  refine wp_ifn (by decide) ?_
  refine wp_ck (by decide) ?_
  refine wp_ifn (by decide) ?_
  refine wp_ifn (by decide) ?_
  refine wp_ck (by decide) ?_
  refine wp_ck (by decide) ?_
  refine wp_in3 ?_
  refine wp_of (uf_X1_run _ _ _ _ _ _ _ _ _ _) ?_
  refine wp_of (uf_X1_runo _ _ _ _ _ _ _ _ _ _) ?_
  refine wp_in2 ?_
  refine wp_of (uf_X1_note _ _ _ _) ?_
  refine wp_ifn (by decide) ?_
  refine wp_ck (i_inb (by decide) (by rw [show (((((0 : Int32) + (1 : Int32)) + (1 : Int32)) + (1 : Int32))).toInt = 3 from by decide]; (try simp only [is_len]); omega)) ?_
  refine wp_nm (fun y15 h15 => ?_)
  subst h15
  refine wp_of (uf_X1_note_19 _ _ _) ?_
  refine wp_nm (fun y16 h16 => ?_)
  subst h16
  refine wp_so2 ?_
  show wp _ _
  refine wp_ifn (by decide) ?_
  refine wp_ifn (by decide) ?_
  refine wp_ifn (by decide) ?_
  refine wp_ifn (by decide) ?_
  refine wp_ifp (by decide) ?_
  refine wp_in3 ?_
  refine wp_of (uf_X1_call _ _ _ _ _ _ _ _ _ _) ?_
  refine wp_of (uf_X1_call_6 _ _ _ _ _ _ _ _ _ _ _ _) ?_
  refine wp_ifn (by decide) ?_
  refine wp_ifn (by decide) ?_
  refine wp_ck (by decide) ?_
  refine wp_ifn (by decide) ?_
  refine wp_ifn (by decide) ?_
  refine wp_ck (by decide) ?_
  refine wp_ck (by decide) ?_
  refine wp_in3 ?_
  refine wp_of (uf_X1_run _ _ _ _ _ _ _ _ _ _) ?_
  refine wp_of (uf_X1_runo _ _ _ _ _ _ _ _ _ _) ?_
  refine wp_in2 ?_
  refine wp_of (uf_X1_note _ _ _ _) ?_
  refine wp_ifn (by decide) ?_
  refine wp_ck (i_inb (by decide) (by rw [show ((((((0 : Int32) + (1 : Int32)) + (1 : Int32)) + (1 : Int32)) + (1 : Int32))).toInt = 4 from by decide]; (try simp only [is_len]); omega)) ?_
  refine wp_nm (fun y17 h17 => ?_)
  subst h17
  refine wp_of (uf_X1_note_19 _ _ _) ?_
  refine wp_nm (fun y18 h18 => ?_)
  subst h18
  refine wp_so2 ?_
  show wp _ _
  refine wp_ifp (by decide) ?_
  refine wp_so3 ?_
  show wp _ _
  refine wp_so3 ?_
  show wp _ _
  refine wp_so3 ?_
  show wp _ _
  refine wp_so3 ?_
  show wp _ _
  refine wp_so3 ?_
  show wp _ _
  refine wp_so3 ?_
  show wp _ _
  refine wp_so3 ?_
  show wp _ _
  refine wp_so3 ?_
  show wp _ _
  refine wp_in3 ?_
  refine wp_of (uf_X1_call _ _ _ _ _ _ _ _ _ _) ?_
  refine wp_of (uf_X1_call_6 _ _ _ _ _ _ _ _ _ _ _ _) ?_
  refine wp_ifn (by decide) ?_
  refine wp_ifn (by decide) ?_
  refine wp_ck (by decide) ?_
  refine wp_ifp (by decide) ?_
  refine wp_ck (by decide) ?_
  refine wp_nm (fun y19 h19 => ?_)
  subst h19
  refine wp_nm (fun y20 h20 => ?_)
  subst h20
  refine wp_of (uf_X1_call_6 _ _ _ _ _ _ _ _ _ _ _ _) ?_
  refine wp_ifn (by decide) ?_
  refine wp_ifn (by decide) ?_
  refine wp_ck (by decide) ?_
  refine wp_ifp (by decide) ?_
  refine wp_ck (by decide) ?_
  refine wp_nm (fun y21 h21 => ?_)
  subst h21
  refine wp_nm (fun y22 h22 => ?_)
  subst h22
  refine wp_of (uf_X1_call_6 _ _ _ _ _ _ _ _ _ _ _ _) ?_
  refine wp_ifn (by decide) ?_
  refine wp_ifn (by decide) ?_
  refine wp_ck (by decide) ?_
  refine wp_ifn (by decide) ?_
  refine wp_ifn (by decide) ?_
  refine wp_ck (by decide) ?_
  refine wp_ck (by decide) ?_
  refine wp_in3 ?_
  refine wp_of (uf_X1_run _ _ _ _ _ _ _ _ _ _) ?_
  refine wp_of (uf_X1_runo _ _ _ _ _ _ _ _ _ _) ?_
  refine wp_in2 ?_
  refine wp_of (uf_X1_note _ _ _ _) ?_
  refine wp_ifn (by decide) ?_
  refine wp_ck (i_inb (by decide) (by rw [show (((((((0 : Int32) + (1 : Int32)) + (1 : Int32)) + (1 : Int32)) + (1 : Int32)) + (1 : Int32))).toInt = 5 from by decide]; (try simp only [is_len]); omega)) ?_
  refine wp_nm (fun y23 h23 => ?_)
  subst h23
  refine wp_of (uf_X1_note_19 _ _ _) ?_
  refine wp_nm (fun y24 h24 => ?_)
  subst h24
  refine wp_so2 ?_
  show wp _ _
  refine wp_ifn (by decide) ?_
  refine wp_ifn (by decide) ?_
  refine wp_ifn (by decide) ?_
  refine wp_ifp (by decide) ?_
  refine wp_so3 ?_
  show wp _ _
  refine wp_so3 ?_
  show wp _ _
  refine wp_so3 ?_
  show wp _ _
  exact wp_so3 ⟨rfl, rfl, rfl⟩

set_option maxRecDepth 20000 in
theorem ac8_7_0 (x b : Int32) (tr : List Int32) (hl : tr.length = 24) : wp (fX1_call 700 (fX1_run 700 42) (7 : Int32) (7 : Int32) (0 : Int32) x (0 : Int32) (0 : Int32) b tr) (cu3 (fun r0 r1 r2 => r0 = (x + b) ∧ r1 = ((0 : Int32) + (1 : Int32)) ∧ r2 = (mm_is tr (0 : Int32) (mm_ig mm_OWN (((4 : Int32) * (mm_ig mm_ABOVE (mm_ig mm_ABOVE (7 : Int32)))) + (0 : Int32)))))) := by
  refine wp_of (uf_X1_call _ _ _ _ _ _ _ _ _ _) ?_
  refine wp_of (uf_X1_call_6 _ _ _ _ _ _ _ _ _ _ _ _) ?_
  refine wp_ifn (by decide) ?_
  refine wp_ifn (by decide) ?_
  refine wp_ck (by decide) ?_
  refine wp_ifp (by decide) ?_
  refine wp_ck (by decide) ?_
  refine wp_nm (fun y1 h1 => ?_)
  subst h1
  refine wp_nm (fun y2 h2 => ?_)
  subst h2
  refine wp_of (uf_X1_call_6 _ _ _ _ _ _ _ _ _ _ _ _) ?_
  refine wp_ifn (by decide) ?_
  refine wp_ifn (by decide) ?_
  refine wp_ck (by decide) ?_
  refine wp_ifp (by decide) ?_
  refine wp_ck (by decide) ?_
  refine wp_nm (fun y3 h3 => ?_)
  subst h3
  refine wp_nm (fun y4 h4 => ?_)
  subst h4
  refine wp_of (uf_X1_call_6 _ _ _ _ _ _ _ _ _ _ _ _) ?_
  refine wp_ifn (by decide) ?_
  refine wp_ifn (by decide) ?_
  refine wp_ck (by decide) ?_
  refine wp_ifn (by decide) ?_
  refine wp_ifn (by decide) ?_
  refine wp_ck (by decide) ?_
  refine wp_ck (by decide) ?_
  refine wp_in3 ?_
  refine wp_of (uf_X1_run _ _ _ _ _ _ _ _ _ _) ?_
  refine wp_of (uf_X1_runo _ _ _ _ _ _ _ _ _ _) ?_
  refine wp_in2 ?_
  refine wp_of (uf_X1_note _ _ _ _) ?_
  refine wp_ifn (by decide) ?_
  refine wp_ck (i_inb (by decide) (by rw [show ((0 : Int32)).toInt = 0 from by decide]; (try simp only [is_len]); omega)) ?_
  refine wp_nm (fun y5 h5 => ?_)
  subst h5
  refine wp_of (uf_X1_note_19 _ _ _) ?_
  refine wp_nm (fun y6 h6 => ?_)
  subst h6
  refine wp_so2 ?_
  show wp _ _
  refine wp_ifp (by decide) ?_
  refine wp_so3 ?_
  show wp _ _
  exact wp_so3 ⟨rfl, rfl, rfl⟩

set_option maxRecDepth 20000 in
theorem ac8_7_1 (x b : Int32) (tr : List Int32) (hl : tr.length = 24) : wp (fX1_call 700 (fX1_run 700 42) (7 : Int32) (7 : Int32) (1 : Int32) x (0 : Int32) (0 : Int32) b tr) (cu3 (fun r0 r1 r2 => r0 = (((x + b) * (2 : Int32)) + (((2 : Int32) ^^^ b) - ((2 : Int32) + b))) ∧ r1 = (((((((0 : Int32) + (1 : Int32)) + (1 : Int32)) + (1 : Int32)) + (1 : Int32)) + (1 : Int32)) + (1 : Int32)) ∧ r2 = (mm_is (mm_is (mm_is (mm_is (mm_is (mm_is tr (0 : Int32) (mm_ig mm_OWN (((4 : Int32) * (7 : Int32)) + (1 : Int32)))) ((0 : Int32) + (1 : Int32)) (mm_ig mm_OWN (((4 : Int32) * (mm_ig mm_ABOVE (mm_ig mm_ABOVE (7 : Int32)))) + (1 : Int32)))) (((0 : Int32) + (1 : Int32)) + (1 : Int32)) (mm_ig mm_OWN (((4 : Int32) * (mm_ig mm_ABOVE (mm_ig mm_ABOVE (7 : Int32)))) + (0 : Int32)))) ((((0 : Int32) + (1 : Int32)) + (1 : Int32)) + (1 : Int32)) (mm_ig mm_OWN (((4 : Int32) * (mm_ig mm_ABOVE (7 : Int32))) + (2 : Int32)))) (((((0 : Int32) + (1 : Int32)) + (1 : Int32)) + (1 : Int32)) + (1 : Int32)) (mm_ig mm_OWN (((4 : Int32) * (mm_ig mm_ABOVE (mm_ig mm_ABOVE (7 : Int32)))) + (2 : Int32)))) ((((((0 : Int32) + (1 : Int32)) + (1 : Int32)) + (1 : Int32)) + (1 : Int32)) + (1 : Int32)) (mm_ig mm_OWN (((4 : Int32) * (mm_ig mm_ABOVE (mm_ig mm_ABOVE (7 : Int32)))) + (0 : Int32)))))) := by
  refine wp_of (uf_X1_call _ _ _ _ _ _ _ _ _ _) ?_
  refine wp_of (uf_X1_call_6 _ _ _ _ _ _ _ _ _ _ _ _) ?_
  refine wp_ifn (by decide) ?_
  refine wp_ifn (by decide) ?_
  refine wp_ck (by decide) ?_
  refine wp_ifn (by decide) ?_
  refine wp_ifn (by decide) ?_
  refine wp_ck (by decide) ?_
  refine wp_ck (by decide) ?_
  refine wp_in3 ?_
  refine wp_of (uf_X1_run _ _ _ _ _ _ _ _ _ _) ?_
  refine wp_of (uf_X1_runo _ _ _ _ _ _ _ _ _ _) ?_
  refine wp_in2 ?_
  refine wp_of (uf_X1_note _ _ _ _) ?_
  refine wp_ifn (by decide) ?_
  refine wp_ck (i_inb (by decide) (by rw [show ((0 : Int32)).toInt = 0 from by decide]; (try simp only [is_len]); omega)) ?_
  refine wp_nm (fun y1 h1 => ?_)
  subst h1
  refine wp_of (uf_X1_note_19 _ _ _) ?_
  refine wp_nm (fun y2 h2 => ?_)
  subst h2
  refine wp_so2 ?_
  show wp _ _
  refine wp_ifn (by decide) ?_
  refine wp_ifn (by decide) ?_
  refine wp_ifn (by decide) ?_
  refine wp_ifn (by decide) ?_
  refine wp_ifn (by decide) ?_
  refine wp_ifn (by decide) ?_
  refine wp_ifn (by decide) ?_
  refine wp_ifn (by decide) ?_
  refine wp_ifn (by decide) ?_
  refine wp_ifn (by decide) ?_
  refine wp_ifn (by decide) ?_
  refine wp_ifp (by decide) ?_
  refine wp_in3 ?_
  refine wp_of (uf_X1_call _ _ _ _ _ _ _ _ _ _) ?_
  refine wp_of (uf_X1_call_6 _ _ _ _ _ _ _ _ _ _ _ _) ?_
  refine wp_ifn (by decide) ?_
  refine wp_ifn (by decide) ?_
  refine wp_ck (by decide) ?_
  refine wp_ifp (by decide) ?_
  refine wp_ck (by decide) ?_
  refine wp_nm (fun y3 h3 => ?_)
  subst h3
  refine wp_nm (fun y4 h4 => ?_)
  subst h4
  refine wp_of (uf_X1_call_6 _ _ _ _ _ _ _ _ _ _ _ _) ?_
  refine wp_ifn (by decide) ?_
  refine wp_ifn (by decide) ?_
  refine wp_ck (by decide) ?_
  refine wp_ifn (by decide) ?_
  refine wp_ifn (by decide) ?_
  refine wp_ck (by decide) ?_
  refine wp_ck (by decide) ?_
  refine wp_in3 ?_
  refine wp_of (uf_X1_run _ _ _ _ _ _ _ _ _ _) ?_
  refine wp_of (uf_X1_runo _ _ _ _ _ _ _ _ _ _) ?_
  refine wp_in2 ?_
  refine wp_of (uf_X1_note _ _ _ _) ?_
  refine wp_ifn (by decide) ?_
  refine wp_ck (i_inb (by decide) (by rw [show (((0 : Int32) + (1 : Int32))).toInt = 1 from by decide]; (try simp only [is_len]); omega)) ?_
  refine wp_nm (fun y5 h5 => ?_)
  subst h5
  refine wp_of (uf_X1_note_19 _ _ _) ?_
  refine wp_nm (fun y6 h6 => ?_)
  subst h6
  refine wp_so2 ?_
  show wp _ _
  refine wp_ifn (by decide) ?_
  refine wp_ifn (by decide) ?_
  refine wp_ifp (by decide) ?_
  refine wp_in3 ?_
  refine wp_of (uf_X1_call _ _ _ _ _ _ _ _ _ _) ?_
  refine wp_of (uf_X1_call_6 _ _ _ _ _ _ _ _ _ _ _ _) ?_
  refine wp_ifn (by decide) ?_
  refine wp_ifn (by decide) ?_
  refine wp_ck (by decide) ?_
  refine wp_ifp (by decide) ?_
  refine wp_ck (by decide) ?_
  refine wp_nm (fun y7 h7 => ?_)
  subst h7
  refine wp_nm (fun y8 h8 => ?_)
  subst h8
  refine wp_of (uf_X1_call_6 _ _ _ _ _ _ _ _ _ _ _ _) ?_
  refine wp_ifn (by decide) ?_
  refine wp_ifn (by decide) ?_
  refine wp_ck (by decide) ?_
  refine wp_ifp (by decide) ?_
  refine wp_ck (by decide) ?_
  refine wp_nm (fun y9 h9 => ?_)
  subst h9
  refine wp_nm (fun y10 h10 => ?_)
  subst h10
  refine wp_of (uf_X1_call_6 _ _ _ _ _ _ _ _ _ _ _ _) ?_
  refine wp_ifn (by decide) ?_
  refine wp_ifn (by decide) ?_
  refine wp_ck (by decide) ?_
  refine wp_ifn (by decide) ?_
  refine wp_ifn (by decide) ?_
  refine wp_ck (by decide) ?_
  refine wp_ck (by decide) ?_
  refine wp_in3 ?_
  refine wp_of (uf_X1_run _ _ _ _ _ _ _ _ _ _) ?_
  refine wp_of (uf_X1_runo _ _ _ _ _ _ _ _ _ _) ?_
  refine wp_in2 ?_
  refine wp_of (uf_X1_note _ _ _ _) ?_
  refine wp_ifn (by decide) ?_
  refine wp_ck (i_inb (by decide) (by rw [show ((((0 : Int32) + (1 : Int32)) + (1 : Int32))).toInt = 2 from by decide]; (try simp only [is_len]); omega)) ?_
  refine wp_nm (fun y11 h11 => ?_)
  subst h11
  refine wp_of (uf_X1_note_19 _ _ _) ?_
  refine wp_nm (fun y12 h12 => ?_)
  subst h12
  refine wp_so2 ?_
  show wp _ _
  refine wp_ifp (by decide) ?_
  refine wp_so3 ?_
  show wp _ _
  refine wp_so3 ?_
  show wp _ _
  refine wp_so3 ?_
  show wp _ _
  refine wp_so3 ?_
  show wp _ _
  refine wp_in3 ?_
  refine wp_of (uf_X1_call _ _ _ _ _ _ _ _ _ _) ?_
  refine wp_of (uf_X1_call_6 _ _ _ _ _ _ _ _ _ _ _ _) ?_
  refine wp_ifn (by decide) ?_
  refine wp_ifn (by decide) ?_
  refine wp_ck (by decide) ?_
  refine wp_ifp (by decide) ?_
  refine wp_ck (by decide) ?_
  refine wp_nm (fun y13 h13 => ?_)
  subst h13
  refine wp_nm (fun y14 h14 => ?_)
  subst h14
  refine wp_of (uf_X1_call_6 _ _ _ _ _ _ _ _ _ _ _ _) ?_
  refine wp_ifn (by decide) ?_
  refine wp_ifn (by decide) ?_
  refine wp_ck (by decide) ?_
  refine wp_ifn (by decide) ?_
  refine wp_ifn (by decide) ?_
  refine wp_ck (by decide) ?_
  refine wp_ck (by decide) ?_
  refine wp_in3 ?_
  refine wp_of (uf_X1_run _ _ _ _ _ _ _ _ _ _) ?_
  refine wp_of (uf_X1_runo _ _ _ _ _ _ _ _ _ _) ?_
  refine wp_in2 ?_
  refine wp_of (uf_X1_note _ _ _ _) ?_
  refine wp_ifn (by decide) ?_
  refine wp_ck (i_inb (by decide) (by rw [show (((((0 : Int32) + (1 : Int32)) + (1 : Int32)) + (1 : Int32))).toInt = 3 from by decide]; (try simp only [is_len]); omega)) ?_
  refine wp_nm (fun y15 h15 => ?_)
  subst h15
  refine wp_of (uf_X1_note_19 _ _ _) ?_
  refine wp_nm (fun y16 h16 => ?_)
  subst h16
  refine wp_so2 ?_
  show wp _ _
  refine wp_ifn (by decide) ?_
  refine wp_ifn (by decide) ?_
  refine wp_ifn (by decide) ?_
  refine wp_ifn (by decide) ?_
  refine wp_ifn (by decide) ?_
  refine wp_ifn (by decide) ?_
  refine wp_ifn (by decide) ?_
  refine wp_ifn (by decide) ?_
  refine wp_ifp (by decide) ?_
  refine wp_in3 ?_
  refine wp_of (uf_X1_call _ _ _ _ _ _ _ _ _ _) ?_
  refine wp_of (uf_X1_call_6 _ _ _ _ _ _ _ _ _ _ _ _) ?_
  refine wp_ifn (by decide) ?_
  refine wp_ifn (by decide) ?_
  refine wp_ck (by decide) ?_
  refine wp_ifn (by decide) ?_
  refine wp_ifn (by decide) ?_
  refine wp_ck (by decide) ?_
  refine wp_ck (by decide) ?_
  refine wp_in3 ?_
  refine wp_of (uf_X1_run _ _ _ _ _ _ _ _ _ _) ?_
  refine wp_of (uf_X1_runo _ _ _ _ _ _ _ _ _ _) ?_
  refine wp_in2 ?_
  refine wp_of (uf_X1_note _ _ _ _) ?_
  refine wp_ifn (by decide) ?_
  refine wp_ck (i_inb (by decide) (by rw [show ((((((0 : Int32) + (1 : Int32)) + (1 : Int32)) + (1 : Int32)) + (1 : Int32))).toInt = 4 from by decide]; (try simp only [is_len]); omega)) ?_
  refine wp_nm (fun y17 h17 => ?_)
  subst h17
  refine wp_of (uf_X1_note_19 _ _ _) ?_
  refine wp_nm (fun y18 h18 => ?_)
  subst h18
  refine wp_so2 ?_
  show wp _ _
  refine wp_ifn (by decide) ?_
  refine wp_ifn (by decide) ?_
  refine wp_ifn (by decide) ?_
  refine wp_ifp (by decide) ?_
  refine wp_so3 ?_
  show wp _ _
  refine wp_so3 ?_
  show wp _ _
  refine wp_in3 ?_
  refine wp_of (uf_X1_call _ _ _ _ _ _ _ _ _ _) ?_
  refine wp_of (uf_X1_call_6 _ _ _ _ _ _ _ _ _ _ _ _) ?_
  refine wp_ifn (by decide) ?_
  refine wp_ifn (by decide) ?_
  refine wp_ck (by decide) ?_
  refine wp_ifp (by decide) ?_
  refine wp_ck (by decide) ?_
  refine wp_nm (fun y19 h19 => ?_)
  subst h19
  refine wp_nm (fun y20 h20 => ?_)
  subst h20
  refine wp_of (uf_X1_call_6 _ _ _ _ _ _ _ _ _ _ _ _) ?_
  refine wp_ifn (by decide) ?_
  refine wp_ifn (by decide) ?_
  refine wp_ck (by decide) ?_
  refine wp_ifp (by decide) ?_
  refine wp_ck (by decide) ?_
  refine wp_nm (fun y21 h21 => ?_)
  subst h21
  refine wp_nm (fun y22 h22 => ?_)
  subst h22
  refine wp_of (uf_X1_call_6 _ _ _ _ _ _ _ _ _ _ _ _) ?_
  refine wp_ifn (by decide) ?_
  refine wp_ifn (by decide) ?_
  refine wp_ck (by decide) ?_
  refine wp_ifn (by decide) ?_
  refine wp_ifn (by decide) ?_
  refine wp_ck (by decide) ?_
  refine wp_ck (by decide) ?_
  refine wp_in3 ?_
  refine wp_of (uf_X1_run _ _ _ _ _ _ _ _ _ _) ?_
  refine wp_of (uf_X1_runo _ _ _ _ _ _ _ _ _ _) ?_
  refine wp_in2 ?_
  refine wp_of (uf_X1_note _ _ _ _) ?_
  refine wp_ifn (by decide) ?_
  refine wp_ck (i_inb (by decide) (by rw [show (((((((0 : Int32) + (1 : Int32)) + (1 : Int32)) + (1 : Int32)) + (1 : Int32)) + (1 : Int32))).toInt = 5 from by decide]; (try simp only [is_len]); omega)) ?_
  refine wp_nm (fun y23 h23 => ?_)
  subst h23
  refine wp_of (uf_X1_note_19 _ _ _) ?_
  refine wp_nm (fun y24 h24 => ?_)
  subst h24
  refine wp_so2 ?_
  show wp _ _
  refine wp_ifp (by decide) ?_
  refine wp_so3 ?_
  show wp _ _
  refine wp_so3 ?_
  show wp _ _
  refine wp_so3 ?_
  show wp _ _
  refine wp_so3 ?_
  show wp _ _
  refine wp_so3 ?_
  show wp _ _
  exact wp_so3 ⟨rfl, rfl, rfl⟩

set_option maxRecDepth 20000 in
theorem ac8_7_2 (x b : Int32) (tr : List Int32) (hl : tr.length = 24) : wp (fX1_call 700 (fX1_run 700 42) (7 : Int32) (7 : Int32) (2 : Int32) x (0 : Int32) (0 : Int32) b tr) (cu3 (fun r0 r1 r2 => r0 = ((x ^^^ b) - ((2 : Int32) + b)) ∧ r1 = ((((0 : Int32) + (1 : Int32)) + (1 : Int32)) + (1 : Int32)) ∧ r2 = (mm_is (mm_is (mm_is tr (0 : Int32) (mm_ig mm_OWN (((4 : Int32) * (mm_ig mm_ABOVE (7 : Int32))) + (2 : Int32)))) ((0 : Int32) + (1 : Int32)) (mm_ig mm_OWN (((4 : Int32) * (mm_ig mm_ABOVE (mm_ig mm_ABOVE (7 : Int32)))) + (2 : Int32)))) (((0 : Int32) + (1 : Int32)) + (1 : Int32)) (mm_ig mm_OWN (((4 : Int32) * (mm_ig mm_ABOVE (mm_ig mm_ABOVE (7 : Int32)))) + (0 : Int32)))))) := by
  refine wp_of (uf_X1_call _ _ _ _ _ _ _ _ _ _) ?_
  refine wp_of (uf_X1_call_6 _ _ _ _ _ _ _ _ _ _ _ _) ?_
  refine wp_ifn (by decide) ?_
  refine wp_ifn (by decide) ?_
  refine wp_ck (by decide) ?_
  refine wp_ifp (by decide) ?_
  refine wp_ck (by decide) ?_
  refine wp_nm (fun y1 h1 => ?_)
  subst h1
  refine wp_nm (fun y2 h2 => ?_)
  subst h2
  refine wp_of (uf_X1_call_6 _ _ _ _ _ _ _ _ _ _ _ _) ?_
  refine wp_ifn (by decide) ?_
  refine wp_ifn (by decide) ?_
  refine wp_ck (by decide) ?_
  refine wp_ifn (by decide) ?_
  refine wp_ifn (by decide) ?_
  refine wp_ck (by decide) ?_
  refine wp_ck (by decide) ?_
  refine wp_in3 ?_
  refine wp_of (uf_X1_run _ _ _ _ _ _ _ _ _ _) ?_
  refine wp_of (uf_X1_runo _ _ _ _ _ _ _ _ _ _) ?_
  refine wp_in2 ?_
  refine wp_of (uf_X1_note _ _ _ _) ?_
  refine wp_ifn (by decide) ?_
  refine wp_ck (i_inb (by decide) (by rw [show ((0 : Int32)).toInt = 0 from by decide]; (try simp only [is_len]); omega)) ?_
  refine wp_nm (fun y3 h3 => ?_)
  subst h3
  refine wp_of (uf_X1_note_19 _ _ _) ?_
  refine wp_nm (fun y4 h4 => ?_)
  subst h4
  refine wp_so2 ?_
  show wp _ _
  refine wp_ifn (by decide) ?_
  refine wp_ifn (by decide) ?_
  refine wp_ifn (by decide) ?_
  refine wp_ifn (by decide) ?_
  refine wp_ifn (by decide) ?_
  refine wp_ifn (by decide) ?_
  refine wp_ifn (by decide) ?_
  refine wp_ifn (by decide) ?_
  refine wp_ifp (by decide) ?_
  refine wp_in3 ?_
  refine wp_of (uf_X1_call _ _ _ _ _ _ _ _ _ _) ?_
  refine wp_of (uf_X1_call_6 _ _ _ _ _ _ _ _ _ _ _ _) ?_
  refine wp_ifn (by decide) ?_
  refine wp_ifn (by decide) ?_
  refine wp_ck (by decide) ?_
  refine wp_ifn (by decide) ?_
  refine wp_ifn (by decide) ?_
  refine wp_ck (by decide) ?_
  refine wp_ck (by decide) ?_
  refine wp_in3 ?_
  refine wp_of (uf_X1_run _ _ _ _ _ _ _ _ _ _) ?_
  refine wp_of (uf_X1_runo _ _ _ _ _ _ _ _ _ _) ?_
  refine wp_in2 ?_
  refine wp_of (uf_X1_note _ _ _ _) ?_
  refine wp_ifn (by decide) ?_
  refine wp_ck (i_inb (by decide) (by rw [show (((0 : Int32) + (1 : Int32))).toInt = 1 from by decide]; (try simp only [is_len]); omega)) ?_
  refine wp_nm (fun y5 h5 => ?_)
  subst h5
  refine wp_of (uf_X1_note_19 _ _ _) ?_
  refine wp_nm (fun y6 h6 => ?_)
  subst h6
  refine wp_so2 ?_
  show wp _ _
  refine wp_ifn (by decide) ?_
  refine wp_ifn (by decide) ?_
  refine wp_ifn (by decide) ?_
  refine wp_ifp (by decide) ?_
  refine wp_so3 ?_
  show wp _ _
  refine wp_so3 ?_
  show wp _ _
  refine wp_in3 ?_
  refine wp_of (uf_X1_call _ _ _ _ _ _ _ _ _ _) ?_
  refine wp_of (uf_X1_call_6 _ _ _ _ _ _ _ _ _ _ _ _) ?_
  refine wp_ifn (by decide) ?_
  refine wp_ifn (by decide) ?_
  refine wp_ck (by decide) ?_
  refine wp_ifp (by decide) ?_
  refine wp_ck (by decide) ?_
  refine wp_nm (fun y7 h7 => ?_)
  subst h7
  refine wp_nm (fun y8 h8 => ?_)
  subst h8
  refine wp_of (uf_X1_call_6 _ _ _ _ _ _ _ _ _ _ _ _) ?_
  refine wp_ifn (by decide) ?_
  refine wp_ifn (by decide) ?_
  refine wp_ck (by decide) ?_
  refine wp_ifp (by decide) ?_
  refine wp_ck (by decide) ?_
  refine wp_nm (fun y9 h9 => ?_)
  subst h9
  refine wp_nm (fun y10 h10 => ?_)
  subst h10
  refine wp_of (uf_X1_call_6 _ _ _ _ _ _ _ _ _ _ _ _) ?_
  refine wp_ifn (by decide) ?_
  refine wp_ifn (by decide) ?_
  refine wp_ck (by decide) ?_
  refine wp_ifn (by decide) ?_
  refine wp_ifn (by decide) ?_
  refine wp_ck (by decide) ?_
  refine wp_ck (by decide) ?_
  refine wp_in3 ?_
  refine wp_of (uf_X1_run _ _ _ _ _ _ _ _ _ _) ?_
  refine wp_of (uf_X1_runo _ _ _ _ _ _ _ _ _ _) ?_
  refine wp_in2 ?_
  refine wp_of (uf_X1_note _ _ _ _) ?_
  refine wp_ifn (by decide) ?_
  refine wp_ck (i_inb (by decide) (by rw [show ((((0 : Int32) + (1 : Int32)) + (1 : Int32))).toInt = 2 from by decide]; (try simp only [is_len]); omega)) ?_
  refine wp_nm (fun y11 h11 => ?_)
  subst h11
  refine wp_of (uf_X1_note_19 _ _ _) ?_
  refine wp_nm (fun y12 h12 => ?_)
  subst h12
  refine wp_so2 ?_
  show wp _ _
  refine wp_ifp (by decide) ?_
  refine wp_so3 ?_
  show wp _ _
  refine wp_so3 ?_
  show wp _ _
  refine wp_so3 ?_
  show wp _ _
  exact wp_so3 ⟨rfl, rfl, rfl⟩

set_option maxRecDepth 20000 in
theorem ac8_7_3 (x b : Int32) (tr : List Int32) (hl : tr.length = 24) : wp (fX1_call 700 (fX1_run 700 42) (7 : Int32) (7 : Int32) (3 : Int32) x (0 : Int32) (0 : Int32) b tr) (cu3 (fun r0 r1 r2 => r0 = (((((x + b) * (2 : Int32)) + (((2 : Int32) ^^^ b) - ((2 : Int32) + b))) - (((1 : Int32) ^^^ b) - ((2 : Int32) + b))) - (1 : Int32)) ∧ r1 = ((((((((((((0 : Int32) + (1 : Int32)) + (1 : Int32)) + (1 : Int32)) + (1 : Int32)) + (1 : Int32)) + (1 : Int32)) + (1 : Int32)) + (1 : Int32)) + (1 : Int32)) + (1 : Int32)) + (1 : Int32)) ∧ r2 = (mm_is (mm_is (mm_is (mm_is (mm_is (mm_is (mm_is (mm_is (mm_is (mm_is (mm_is tr (0 : Int32) (mm_ig mm_OWN (((4 : Int32) * (7 : Int32)) + (3 : Int32)))) ((0 : Int32) + (1 : Int32)) (mm_ig mm_OWN (((4 : Int32) * (mm_ig mm_ABOVE (mm_ig mm_ABOVE (7 : Int32)))) + (3 : Int32)))) (((0 : Int32) + (1 : Int32)) + (1 : Int32)) (mm_ig mm_OWN (((4 : Int32) * (7 : Int32)) + (1 : Int32)))) ((((0 : Int32) + (1 : Int32)) + (1 : Int32)) + (1 : Int32)) (mm_ig mm_OWN (((4 : Int32) * (mm_ig mm_ABOVE (mm_ig mm_ABOVE (7 : Int32)))) + (1 : Int32)))) (((((0 : Int32) + (1 : Int32)) + (1 : Int32)) + (1 : Int32)) + (1 : Int32)) (mm_ig mm_OWN (((4 : Int32) * (mm_ig mm_ABOVE (mm_ig mm_ABOVE (7 : Int32)))) + (0 : Int32)))) ((((((0 : Int32) + (1 : Int32)) + (1 : Int32)) + (1 : Int32)) + (1 : Int32)) + (1 : Int32)) (mm_ig mm_OWN (((4 : Int32) * (mm_ig mm_ABOVE (7 : Int32))) + (2 : Int32)))) (((((((0 : Int32) + (1 : Int32)) + (1 : Int32)) + (1 : Int32)) + (1 : Int32)) + (1 : Int32)) + (1 : Int32)) (mm_ig mm_OWN (((4 : Int32) * (mm_ig mm_ABOVE (mm_ig mm_ABOVE (7 : Int32)))) + (2 : Int32)))) ((((((((0 : Int32) + (1 : Int32)) + (1 : Int32)) + (1 : Int32)) + (1 : Int32)) + (1 : Int32)) + (1 : Int32)) + (1 : Int32)) (mm_ig mm_OWN (((4 : Int32) * (mm_ig mm_ABOVE (mm_ig mm_ABOVE (7 : Int32)))) + (0 : Int32)))) (((((((((0 : Int32) + (1 : Int32)) + (1 : Int32)) + (1 : Int32)) + (1 : Int32)) + (1 : Int32)) + (1 : Int32)) + (1 : Int32)) + (1 : Int32)) (mm_ig mm_OWN (((4 : Int32) * (mm_ig mm_ABOVE (7 : Int32))) + (2 : Int32)))) ((((((((((0 : Int32) + (1 : Int32)) + (1 : Int32)) + (1 : Int32)) + (1 : Int32)) + (1 : Int32)) + (1 : Int32)) + (1 : Int32)) + (1 : Int32)) + (1 : Int32)) (mm_ig mm_OWN (((4 : Int32) * (mm_ig mm_ABOVE (mm_ig mm_ABOVE (7 : Int32)))) + (2 : Int32)))) (((((((((((0 : Int32) + (1 : Int32)) + (1 : Int32)) + (1 : Int32)) + (1 : Int32)) + (1 : Int32)) + (1 : Int32)) + (1 : Int32)) + (1 : Int32)) + (1 : Int32)) + (1 : Int32)) (mm_ig mm_OWN (((4 : Int32) * (mm_ig mm_ABOVE (mm_ig mm_ABOVE (7 : Int32)))) + (0 : Int32)))))) := by
  refine wp_of (uf_X1_call _ _ _ _ _ _ _ _ _ _) ?_
  refine wp_of (uf_X1_call_6 _ _ _ _ _ _ _ _ _ _ _ _) ?_
  refine wp_ifn (by decide) ?_
  refine wp_ifn (by decide) ?_
  refine wp_ck (by decide) ?_
  refine wp_ifn (by decide) ?_
  refine wp_ifn (by decide) ?_
  refine wp_ck (by decide) ?_
  refine wp_ck (by decide) ?_
  refine wp_in3 ?_
  refine wp_of (uf_X1_run _ _ _ _ _ _ _ _ _ _) ?_
  refine wp_of (uf_X1_runo _ _ _ _ _ _ _ _ _ _) ?_
  refine wp_in2 ?_
  refine wp_of (uf_X1_note _ _ _ _) ?_
  refine wp_ifn (by decide) ?_
  refine wp_ck (i_inb (by decide) (by rw [show ((0 : Int32)).toInt = 0 from by decide]; (try simp only [is_len]); omega)) ?_
  refine wp_nm (fun y1 h1 => ?_)
  subst h1
  refine wp_of (uf_X1_note_19 _ _ _) ?_
  refine wp_nm (fun y2 h2 => ?_)
  subst h2
  refine wp_so2 ?_
  show wp _ _
  refine wp_ifn (by decide) ?_
  refine wp_ifn (by decide) ?_
  refine wp_ifn (by decide) ?_
  refine wp_ifn (by decide) ?_
  refine wp_ifn (by decide) ?_
  refine wp_ifn (by decide) ?_
  refine wp_ifn (by decide) ?_
  refine wp_ifn (by decide) ?_
  refine wp_ifn (by decide) ?_
  refine wp_ifn (by decide) ?_
  refine wp_ifn (by decide) ?_
  refine wp_ifn (by decide) ?_
  refine wp_ifp (by decide) ?_
  refine wp_in3 ?_
  refine wp_of (uf_X1_call _ _ _ _ _ _ _ _ _ _) ?_
  refine wp_of (uf_X1_call_6 _ _ _ _ _ _ _ _ _ _ _ _) ?_
  refine wp_ifn (by decide) ?_
  refine wp_ifn (by decide) ?_
  refine wp_ck (by decide) ?_
  refine wp_ifp (by decide) ?_
  refine wp_ck (by decide) ?_
  refine wp_nm (fun y3 h3 => ?_)
  subst h3
  refine wp_nm (fun y4 h4 => ?_)
  subst h4
  refine wp_of (uf_X1_call_6 _ _ _ _ _ _ _ _ _ _ _ _) ?_
  refine wp_ifn (by decide) ?_
  refine wp_ifn (by decide) ?_
  refine wp_ck (by decide) ?_
  refine wp_ifn (by decide) ?_
  refine wp_ifn (by decide) ?_
  refine wp_ck (by decide) ?_
  refine wp_ck (by decide) ?_
  refine wp_in3 ?_
  refine wp_of (uf_X1_run _ _ _ _ _ _ _ _ _ _) ?_
  refine wp_of (uf_X1_runo _ _ _ _ _ _ _ _ _ _) ?_
  refine wp_in2 ?_
  refine wp_of (uf_X1_note _ _ _ _) ?_
  refine wp_ifn (by decide) ?_
  refine wp_ck (i_inb (by decide) (by rw [show (((0 : Int32) + (1 : Int32))).toInt = 1 from by decide]; (try simp only [is_len]); omega)) ?_
  refine wp_nm (fun y5 h5 => ?_)
  subst h5
  refine wp_of (uf_X1_note_19 _ _ _) ?_
  refine wp_nm (fun y6 h6 => ?_)
  subst h6
  refine wp_so2 ?_
  show wp _ _
  refine wp_ifn (by decide) ?_
  refine wp_ifp (by decide) ?_
  refine wp_in3 ?_
  refine wp_of (uf_X1_call _ _ _ _ _ _ _ _ _ _) ?_
  refine wp_of (uf_X1_call_6 _ _ _ _ _ _ _ _ _ _ _ _) ?_
  refine wp_ifn (by decide) ?_
  refine wp_ifn (by decide) ?_
  refine wp_ck (by decide) ?_
  refine wp_ifn (by decide) ?_
  refine wp_ifn (by decide) ?_
  refine wp_ck (by decide) ?_
  refine wp_ck (by decide) ?_
  refine wp_in3 ?_
  refine wp_of (uf_X1_run _ _ _ _ _ _ _ _ _ _) ?_
  refine wp_of (uf_X1_runo _ _ _ _ _ _ _ _ _ _) ?_
  refine wp_in2 ?_
  refine wp_of (uf_X1_note _ _ _ _) ?_
  refine wp_ifn (by decide) ?_
  refine wp_ck (i_inb (by decide) (by rw [show ((((0 : Int32) + (1 : Int32)) + (1 : Int32))).toInt = 2 from by decide]; (try simp only [is_len]); omega)) ?_
  refine wp_nm (fun y7 h7 => ?_)
  subst h7
  refine wp_of (uf_X1_note_19 _ _ _) ?_
  refine wp_nm (fun y8 h8 => ?_)
  subst h8
  refine wp_so2 ?_
  show wp _ _
  refine wp_ifn (by decide) ?_
  refine wp_ifn (by decide) ?_
  refine wp_ifn (by decide) ?_
  refine wp_ifn (by decide) ?_
  refine wp_ifn (by decide) ?_
  refine wp_ifn (by decide) ?_
  refine wp_ifn (by decide) ?_
  refine wp_ifn (by decide) ?_
  refine wp_ifn (by decide) ?_
  refine wp_ifn (by decide) ?_
  refine wp_ifn (by decide) ?_
  refine wp_ifp (by decide) ?_
  refine wp_in3 ?_
  refine wp_of (uf_X1_call _ _ _ _ _ _ _ _ _ _) ?_
  refine wp_of (uf_X1_call_6 _ _ _ _ _ _ _ _ _ _ _ _) ?_
  refine wp_ifn (by decide) ?_
  refine wp_ifn (by decide) ?_
  refine wp_ck (by decide) ?_
  refine wp_ifp (by decide) ?_
  refine wp_ck (by decide) ?_
  refine wp_nm (fun y9 h9 => ?_)
  subst h9
  refine wp_nm (fun y10 h10 => ?_)
  subst h10
  refine wp_of (uf_X1_call_6 _ _ _ _ _ _ _ _ _ _ _ _) ?_
  refine wp_ifn (by decide) ?_
  refine wp_ifn (by decide) ?_
  refine wp_ck (by decide) ?_
  refine wp_ifn (by decide) ?_
  refine wp_ifn (by decide) ?_
  refine wp_ck (by decide) ?_
  refine wp_ck (by decide) ?_
  refine wp_in3 ?_
  refine wp_of (uf_X1_run _ _ _ _ _ _ _ _ _ _) ?_
  refine wp_of (uf_X1_runo _ _ _ _ _ _ _ _ _ _) ?_
  refine wp_in2 ?_
  refine wp_of (uf_X1_note _ _ _ _) ?_
  refine wp_ifn (by decide) ?_
  refine wp_ck (i_inb (by decide) (by rw [show (((((0 : Int32) + (1 : Int32)) + (1 : Int32)) + (1 : Int32))).toInt = 3 from by decide]; (try simp only [is_len]); omega)) ?_
  refine wp_nm (fun y11 h11 => ?_)
  subst h11
  refine wp_of (uf_X1_note_19 _ _ _) ?_
  refine wp_nm (fun y12 h12 => ?_)
  subst h12
  refine wp_so2 ?_
  show wp _ _
  refine wp_ifn (by decide) ?_
  refine wp_ifn (by decide) ?_
  refine wp_ifp (by decide) ?_
  refine wp_in3 ?_
  refine wp_of (uf_X1_call _ _ _ _ _ _ _ _ _ _) ?_
  refine wp_of (uf_X1_call_6 _ _ _ _ _ _ _ _ _ _ _ _) ?_
  refine wp_ifn (by decide) ?_
  refine wp_ifn (by decide) ?_
  refine wp_ck (by decide) ?_
  refine wp_ifp (by decide) ?_
  refine wp_ck (by decide) ?_
  refine wp_nm (fun y13 h13 => ?_)
  subst h13
  refine wp_nm (fun y14 h14 => ?_)
  subst h14
  refine wp_of (uf_X1_call_6 _ _ _ _ _ _ _ _ _ _ _ _) ?_
  refine wp_ifn (by decide) ?_
  refine wp_ifn (by decide) ?_
  refine wp_ck (by decide) ?_
  refine wp_ifp (by decide) ?_
  refine wp_ck (by decide) ?_
  refine wp_nm (fun y15 h15 => ?_)
  subst h15
  refine wp_nm (fun y16 h16 => ?_)
  subst h16
  refine wp_of (uf_X1_call_6 _ _ _ _ _ _ _ _ _ _ _ _) ?_
  refine wp_ifn (by decide) ?_
  refine wp_ifn (by decide) ?_
  refine wp_ck (by decide) ?_
  refine wp_ifn (by decide) ?_
  refine wp_ifn (by decide) ?_
  refine wp_ck (by decide) ?_
  refine wp_ck (by decide) ?_
  refine wp_in3 ?_
  refine wp_of (uf_X1_run _ _ _ _ _ _ _ _ _ _) ?_
  refine wp_of (uf_X1_runo _ _ _ _ _ _ _ _ _ _) ?_
  refine wp_in2 ?_
  refine wp_of (uf_X1_note _ _ _ _) ?_
  refine wp_ifn (by decide) ?_
  refine wp_ck (i_inb (by decide) (by rw [show ((((((0 : Int32) + (1 : Int32)) + (1 : Int32)) + (1 : Int32)) + (1 : Int32))).toInt = 4 from by decide]; (try simp only [is_len]); omega)) ?_
  refine wp_nm (fun y17 h17 => ?_)
  subst h17
  refine wp_of (uf_X1_note_19 _ _ _) ?_
  refine wp_nm (fun y18 h18 => ?_)
  subst h18
  refine wp_so2 ?_
  show wp _ _
  refine wp_ifp (by decide) ?_
  refine wp_so3 ?_
  show wp _ _
  refine wp_so3 ?_
  show wp _ _
  refine wp_so3 ?_
  show wp _ _
  refine wp_so3 ?_
  show wp _ _
  refine wp_in3 ?_
  refine wp_of (uf_X1_call _ _ _ _ _ _ _ _ _ _) ?_
  refine wp_of (uf_X1_call_6 _ _ _ _ _ _ _ _ _ _ _ _) ?_
  refine wp_ifn (by decide) ?_
  refine wp_ifn (by decide) ?_
  refine wp_ck (by decide) ?_
  refine wp_ifp (by decide) ?_
  refine wp_ck (by decide) ?_
  refine wp_nm (fun y19 h19 => ?_)
  subst h19
  refine wp_nm (fun y20 h20 => ?_)
  subst h20
  refine wp_of (uf_X1_call_6 _ _ _ _ _ _ _ _ _ _ _ _) ?_
  refine wp_ifn (by decide) ?_
  refine wp_ifn (by decide) ?_
  refine wp_ck (by decide) ?_
  refine wp_ifn (by decide) ?_
  refine wp_ifn (by decide) ?_
  refine wp_ck (by decide) ?_
  refine wp_ck (by decide) ?_
  refine wp_in3 ?_
  refine wp_of (uf_X1_run _ _ _ _ _ _ _ _ _ _) ?_
  refine wp_of (uf_X1_runo _ _ _ _ _ _ _ _ _ _) ?_
  refine wp_in2 ?_
  refine wp_of (uf_X1_note _ _ _ _) ?_
  refine wp_ifn (by decide) ?_
  refine wp_ck (i_inb (by decide) (by rw [show (((((((0 : Int32) + (1 : Int32)) + (1 : Int32)) + (1 : Int32)) + (1 : Int32)) + (1 : Int32))).toInt = 5 from by decide]; (try simp only [is_len]); omega)) ?_
  refine wp_nm (fun y21 h21 => ?_)
  subst h21
  refine wp_of (uf_X1_note_19 _ _ _) ?_
  refine wp_nm (fun y22 h22 => ?_)
  subst h22
  refine wp_so2 ?_
  show wp _ _
  refine wp_ifn (by decide) ?_
  refine wp_ifn (by decide) ?_
  refine wp_ifn (by decide) ?_
  refine wp_ifn (by decide) ?_
  refine wp_ifn (by decide) ?_
  refine wp_ifn (by decide) ?_
  refine wp_ifn (by decide) ?_
  refine wp_ifn (by decide) ?_
  refine wp_ifp (by decide) ?_
  refine wp_in3 ?_
  refine wp_of (uf_X1_call _ _ _ _ _ _ _ _ _ _) ?_
  refine wp_of (uf_X1_call_6 _ _ _ _ _ _ _ _ _ _ _ _) ?_
  refine wp_ifn (by decide) ?_
  refine wp_ifn (by decide) ?_
  refine wp_ck (by decide) ?_
  refine wp_ifn (by decide) ?_
  refine wp_ifn (by decide) ?_
  refine wp_ck (by decide) ?_
  refine wp_ck (by decide) ?_
  refine wp_in3 ?_
  refine wp_of (uf_X1_run _ _ _ _ _ _ _ _ _ _) ?_
  refine wp_of (uf_X1_runo _ _ _ _ _ _ _ _ _ _) ?_
  refine wp_in2 ?_
  refine wp_of (uf_X1_note _ _ _ _) ?_
  refine wp_ifn (by decide) ?_
  refine wp_ck (i_inb (by decide) (by rw [show ((((((((0 : Int32) + (1 : Int32)) + (1 : Int32)) + (1 : Int32)) + (1 : Int32)) + (1 : Int32)) + (1 : Int32))).toInt = 6 from by decide]; (try simp only [is_len]); omega)) ?_
  refine wp_nm (fun y23 h23 => ?_)
  subst h23
  refine wp_of (uf_X1_note_19 _ _ _) ?_
  refine wp_nm (fun y24 h24 => ?_)
  subst h24
  refine wp_so2 ?_
  show wp _ _
  refine wp_ifn (by decide) ?_
  refine wp_ifn (by decide) ?_
  refine wp_ifn (by decide) ?_
  refine wp_ifp (by decide) ?_
  refine wp_so3 ?_
  show wp _ _
  refine wp_so3 ?_
  show wp _ _
  refine wp_in3 ?_
  refine wp_of (uf_X1_call _ _ _ _ _ _ _ _ _ _) ?_
  refine wp_of (uf_X1_call_6 _ _ _ _ _ _ _ _ _ _ _ _) ?_
  refine wp_ifn (by decide) ?_
  refine wp_ifn (by decide) ?_
  refine wp_ck (by decide) ?_
  refine wp_ifp (by decide) ?_
  refine wp_ck (by decide) ?_
  refine wp_nm (fun y25 h25 => ?_)
  subst h25
  refine wp_nm (fun y26 h26 => ?_)
  subst h26
  refine wp_of (uf_X1_call_6 _ _ _ _ _ _ _ _ _ _ _ _) ?_
  refine wp_ifn (by decide) ?_
  refine wp_ifn (by decide) ?_
  refine wp_ck (by decide) ?_
  refine wp_ifp (by decide) ?_
  refine wp_ck (by decide) ?_
  refine wp_nm (fun y27 h27 => ?_)
  subst h27
  refine wp_nm (fun y28 h28 => ?_)
  subst h28
  refine wp_of (uf_X1_call_6 _ _ _ _ _ _ _ _ _ _ _ _) ?_
  refine wp_ifn (by decide) ?_
  refine wp_ifn (by decide) ?_
  refine wp_ck (by decide) ?_
  refine wp_ifn (by decide) ?_
  refine wp_ifn (by decide) ?_
  refine wp_ck (by decide) ?_
  refine wp_ck (by decide) ?_
  refine wp_in3 ?_
  refine wp_of (uf_X1_run _ _ _ _ _ _ _ _ _ _) ?_
  refine wp_of (uf_X1_runo _ _ _ _ _ _ _ _ _ _) ?_
  refine wp_in2 ?_
  refine wp_of (uf_X1_note _ _ _ _) ?_
  refine wp_ifn (by decide) ?_
  refine wp_ck (i_inb (by decide) (by rw [show (((((((((0 : Int32) + (1 : Int32)) + (1 : Int32)) + (1 : Int32)) + (1 : Int32)) + (1 : Int32)) + (1 : Int32)) + (1 : Int32))).toInt = 7 from by decide]; (try simp only [is_len]); omega)) ?_
  refine wp_nm (fun y29 h29 => ?_)
  subst h29
  refine wp_of (uf_X1_note_19 _ _ _) ?_
  refine wp_nm (fun y30 h30 => ?_)
  subst h30
  refine wp_so2 ?_
  show wp _ _
  refine wp_ifp (by decide) ?_
  refine wp_so3 ?_
  show wp _ _
  refine wp_so3 ?_
  show wp _ _
  refine wp_so3 ?_
  show wp _ _
  refine wp_so3 ?_
  show wp _ _
  refine wp_so3 ?_
  show wp _ _
  refine wp_so3 ?_
  show wp _ _
  refine wp_in3 ?_
  refine wp_of (uf_X1_call _ _ _ _ _ _ _ _ _ _) ?_
  refine wp_of (uf_X1_call_6 _ _ _ _ _ _ _ _ _ _ _ _) ?_
  refine wp_ifn (by decide) ?_
  refine wp_ifn (by decide) ?_
  refine wp_ck (by decide) ?_
  refine wp_ifp (by decide) ?_
  refine wp_ck (by decide) ?_
  refine wp_nm (fun y31 h31 => ?_)
  subst h31
  refine wp_nm (fun y32 h32 => ?_)
  subst h32
  refine wp_of (uf_X1_call_6 _ _ _ _ _ _ _ _ _ _ _ _) ?_
  refine wp_ifn (by decide) ?_
  refine wp_ifn (by decide) ?_
  refine wp_ck (by decide) ?_
  refine wp_ifn (by decide) ?_
  refine wp_ifn (by decide) ?_
  refine wp_ck (by decide) ?_
  refine wp_ck (by decide) ?_
  refine wp_in3 ?_
  refine wp_of (uf_X1_run _ _ _ _ _ _ _ _ _ _) ?_
  refine wp_of (uf_X1_runo _ _ _ _ _ _ _ _ _ _) ?_
  refine wp_in2 ?_
  refine wp_of (uf_X1_note _ _ _ _) ?_
  refine wp_ifn (by decide) ?_
  refine wp_ck (i_inb (by decide) (by rw [show ((((((((((0 : Int32) + (1 : Int32)) + (1 : Int32)) + (1 : Int32)) + (1 : Int32)) + (1 : Int32)) + (1 : Int32)) + (1 : Int32)) + (1 : Int32))).toInt = 8 from by decide]; (try simp only [is_len]); omega)) ?_
  refine wp_nm (fun y33 h33 => ?_)
  subst h33
  refine wp_of (uf_X1_note_19 _ _ _) ?_
  refine wp_nm (fun y34 h34 => ?_)
  subst h34
  refine wp_so2 ?_
  show wp _ _
  refine wp_ifn (by decide) ?_
  refine wp_ifn (by decide) ?_
  refine wp_ifn (by decide) ?_
  refine wp_ifn (by decide) ?_
  refine wp_ifn (by decide) ?_
  refine wp_ifn (by decide) ?_
  refine wp_ifn (by decide) ?_
  refine wp_ifn (by decide) ?_
  refine wp_ifp (by decide) ?_
  refine wp_in3 ?_
  refine wp_of (uf_X1_call _ _ _ _ _ _ _ _ _ _) ?_
  refine wp_of (uf_X1_call_6 _ _ _ _ _ _ _ _ _ _ _ _) ?_
  refine wp_ifn (by decide) ?_
  refine wp_ifn (by decide) ?_
  refine wp_ck (by decide) ?_
  refine wp_ifn (by decide) ?_
  refine wp_ifn (by decide) ?_
  refine wp_ck (by decide) ?_
  refine wp_ck (by decide) ?_
  refine wp_in3 ?_
  refine wp_of (uf_X1_run _ _ _ _ _ _ _ _ _ _) ?_
  refine wp_of (uf_X1_runo _ _ _ _ _ _ _ _ _ _) ?_
  refine wp_in2 ?_
  refine wp_of (uf_X1_note _ _ _ _) ?_
  refine wp_ifn (by decide) ?_
  refine wp_ck (i_inb (by decide) (by rw [show (((((((((((0 : Int32) + (1 : Int32)) + (1 : Int32)) + (1 : Int32)) + (1 : Int32)) + (1 : Int32)) + (1 : Int32)) + (1 : Int32)) + (1 : Int32)) + (1 : Int32))).toInt = 9 from by decide]; (try simp only [is_len]); omega)) ?_
  refine wp_nm (fun y35 h35 => ?_)
  subst h35
  refine wp_of (uf_X1_note_19 _ _ _) ?_
  refine wp_nm (fun y36 h36 => ?_)
  subst h36
  refine wp_so2 ?_
  show wp _ _
  refine wp_ifn (by decide) ?_
  refine wp_ifn (by decide) ?_
  refine wp_ifn (by decide) ?_
  refine wp_ifp (by decide) ?_
  refine wp_so3 ?_
  show wp _ _
  refine wp_so3 ?_
  show wp _ _
  refine wp_in3 ?_
  refine wp_of (uf_X1_call _ _ _ _ _ _ _ _ _ _) ?_
  refine wp_of (uf_X1_call_6 _ _ _ _ _ _ _ _ _ _ _ _) ?_
  refine wp_ifn (by decide) ?_
  refine wp_ifn (by decide) ?_
  refine wp_ck (by decide) ?_
  refine wp_ifp (by decide) ?_
  refine wp_ck (by decide) ?_
  refine wp_nm (fun y37 h37 => ?_)
  subst h37
  refine wp_nm (fun y38 h38 => ?_)
  subst h38
  refine wp_of (uf_X1_call_6 _ _ _ _ _ _ _ _ _ _ _ _) ?_
  refine wp_ifn (by decide) ?_
  refine wp_ifn (by decide) ?_
  refine wp_ck (by decide) ?_
  refine wp_ifp (by decide) ?_
  refine wp_ck (by decide) ?_
  refine wp_nm (fun y39 h39 => ?_)
  subst h39
  refine wp_nm (fun y40 h40 => ?_)
  subst h40
  refine wp_of (uf_X1_call_6 _ _ _ _ _ _ _ _ _ _ _ _) ?_
  refine wp_ifn (by decide) ?_
  refine wp_ifn (by decide) ?_
  refine wp_ck (by decide) ?_
  refine wp_ifn (by decide) ?_
  refine wp_ifn (by decide) ?_
  refine wp_ck (by decide) ?_
  refine wp_ck (by decide) ?_
  refine wp_in3 ?_
  refine wp_of (uf_X1_run _ _ _ _ _ _ _ _ _ _) ?_
  refine wp_of (uf_X1_runo _ _ _ _ _ _ _ _ _ _) ?_
  refine wp_in2 ?_
  refine wp_of (uf_X1_note _ _ _ _) ?_
  refine wp_ifn (by decide) ?_
  refine wp_ck (i_inb (by decide) (by rw [show ((((((((((((0 : Int32) + (1 : Int32)) + (1 : Int32)) + (1 : Int32)) + (1 : Int32)) + (1 : Int32)) + (1 : Int32)) + (1 : Int32)) + (1 : Int32)) + (1 : Int32)) + (1 : Int32))).toInt = 10 from by decide]; (try simp only [is_len]); omega)) ?_
  refine wp_nm (fun y41 h41 => ?_)
  subst h41
  refine wp_of (uf_X1_note_19 _ _ _) ?_
  refine wp_nm (fun y42 h42 => ?_)
  subst h42
  refine wp_so2 ?_
  show wp _ _
  refine wp_ifp (by decide) ?_
  refine wp_so3 ?_
  show wp _ _
  refine wp_so3 ?_
  show wp _ _
  refine wp_so3 ?_
  show wp _ _
  refine wp_so3 ?_
  show wp _ _
  refine wp_so3 ?_
  show wp _ _
  refine wp_so3 ?_
  show wp _ _
  refine wp_so3 ?_
  show wp _ _
  exact wp_so3 ⟨rfl, rfl, rfl⟩
