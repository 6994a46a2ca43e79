/-! acts of the reference, kind by kind -/
theorem uf_X9_begins (N : Nat) (x1 : Int32) (v_ran : Int32) (v_trace : List Int32) : fX9_begins N x1 v_ran v_trace = if (24 : Int32) ≤ v_ran then
    (fX9_begins_19 N v_ran v_trace)
    else (mm_ck (mm_inb v_ran v_trace.length) (mm_nm (mm_is v_trace v_ran x1) (fun (l_3 : List Int32) =>
    fX9_begins_19 N v_ran l_3))) := rfl

theorem uf_X9_begins_19 (N : Nat) (v_ran : Int32) (v_trace : List Int32) : fX9_begins_19 N v_ran v_trace = mm_nm ((v_ran + (1 : Int32))) (fun (y_4 : Int32) =>
    some (y_4, v_trace)) := rfl

theorem uf_X9_foldsAs (N : Nat) (M : Nat) (z0 : Int32) (z1 : Int32) (z2 : Int32) (z3 : Int32) (z4 : List Int32) : fX9_foldsAs N (M + 1) z0 z1 z2 z3 z4 = (fX9_foldsAso N (fX9_foldsAs N M)) z0 z1 z2 z3 z4 := rfl

theorem uf_X9_foldsAso (N : Nat) (go : Int32 → Int32 → Int32 → Int32 → List Int32 → Option (Int32 × Int32 × List Int32)) (x1 : Int32) (x2 : Int32) (v_ran : Int32) (v_ownNumber : Int32) (v_trace : List Int32) : fX9_foldsAso N go x1 x2 v_ran v_ownNumber v_trace = if x1 = (6 : Int32) then
    (mm_bd2 (fX9_begins N (70 : Int32) v_ran v_trace) (fun (w_13 : Int32) (w_14 : List Int32) =>
    mm_bd3 (go (1 : Int32) x2 w_13 v_ownNumber w_14) (fun (r_16 : Int32) (w_17 : Int32) (w_18 : List Int32) =>
    some ((r_16 * (2 : Int32)), w_17, w_18))))
    else (if x1 = (1 : Int32) then
    (mm_bd2 (fX9_begins N (20 : Int32) v_ran v_trace) (fun (w_6 : Int32) (w_7 : List Int32) =>
    mm_bd3 (go (0 : Int32) x2 w_6 v_ownNumber w_7) (fun (r_9 : Int32) (w_10 : Int32) (w_11 : List Int32) =>
    some ((r_9 + (3 : Int32)), w_10, w_11))))
    else (mm_bd2 (fX9_begins N (1 : Int32) v_ran v_trace) (fun (w_3 : Int32) (w_4 : List Int32) =>
    some ((x2 + v_ownNumber), w_3, w_4)))) := rfl

theorem uf_X9_laysAs (N : Nat) (M : Nat) (z0 : Int32) (z1 : Int32) (z2 : Int32) (z3 : Int32) (z4 : Int32) (z5 : List Int32) : fX9_laysAs N (M + 1) z0 z1 z2 z3 z4 z5 = (fX9_laysAso N (fX9_laysAs N M)) z0 z1 z2 z3 z4 z5 := rfl

theorem uf_X9_laysAso (N : Nat) (go : Int32 → Int32 → Int32 → Int32 → Int32 → List Int32 → Option (Int32 × Int32 × List Int32)) (x1 : Int32) (x2 : Int32) (v_ran : Int32) (v_ownKind : Int32) (v_ownNumber : Int32) (v_trace : List Int32) : fX9_laysAso N go x1 x2 v_ran v_ownKind v_ownNumber v_trace = if x1 = (3 : Int32) then
    (fX9_laysAs_10 N go x2 v_ran v_ownKind v_ownNumber v_trace)
    else (if x1 = (5 : Int32) then
    (fX9_laysAs_10 N go x2 v_ran v_ownKind v_ownNumber v_trace)
    else (if x1 = (2 : Int32) then
    (mm_bd2 (fX9_begins N (30 : Int32) v_ran v_trace) (fun (w_23 : Int32) (w_24 : List Int32) =>
    mm_bd3 (go (0 : Int32) x2 w_23 v_ownKind v_ownNumber w_24) (fun (r_26 : Int32) (w_27 : Int32) (w_28 : List Int32) =>
    some ((-r_26), w_27, w_28))))
    else (if x1 = (7 : Int32) then
    (mm_bd2 (fX9_begins N (80 : Int32) v_ran v_trace) (fun (w_12 : Int32) (w_13 : List Int32) =>
    mm_bd3 (go (4 : Int32) x2 w_12 v_ownKind v_ownNumber w_13) (fun (r_15 : Int32) (w_16 : Int32) (w_17 : List Int32) =>
    mm_bd3 (fX9_wearsAs N 4 v_ownKind (2 : Int32) w_16 v_ownKind v_ownNumber w_17) (fun (r_19 : Int32) (w_20 : Int32) (w_21 : List Int32) =>
    some ((r_15 + r_19), w_20, w_21)))))
    else (mm_bd2 (fX9_begins N (10 : Int32) v_ran v_trace) (fun (w_5 : Int32) (w_6 : List Int32) =>
    mm_bd3 (fX9_foldsAs N 4 v_ownKind x2 w_5 v_ownNumber w_6) (fun (r_8 : Int32) (w_9 : Int32) (w_10 : List Int32) =>
    some ((r_8 * (2 : Int32)), w_9, w_10))))))) := rfl

theorem uf_X9_wearsAs (N : Nat) (M : Nat) (z0 : Int32) (z1 : Int32) (z2 : Int32) (z3 : Int32) (z4 : Int32) (z5 : List Int32) : fX9_wearsAs N (M + 1) z0 z1 z2 z3 z4 z5 = (fX9_wearsAso N (fX9_wearsAs N M)) z0 z1 z2 z3 z4 z5 := rfl

theorem uf_X9_wearsAso (N : Nat) (go : Int32 → Int32 → Int32 → Int32 → Int32 → List Int32 → Option (Int32 × Int32 × List Int32)) (x1 : Int32) (x2 : Int32) (v_ran : Int32) (v_ownKind : Int32) (v_ownNumber : Int32) (v_trace : List Int32) : fX9_wearsAso N go x1 x2 v_ran v_ownKind v_ownNumber v_trace = if x1 = (3 : Int32) then
    (fX9_wearsAs_10 N go x2 v_ran v_ownKind v_ownNumber v_trace)
    else (if x1 = (5 : Int32) then
    (fX9_wearsAs_10 N go x2 v_ran v_ownKind v_ownNumber v_trace)
    else (if x1 = (4 : Int32) then
    (fX9_wearsAs_36 N go x2 v_ran v_ownKind v_ownNumber v_trace)
    else (if x1 = (7 : Int32) then
    (fX9_wearsAs_36 N go x2 v_ran v_ownKind v_ownNumber v_trace)
    else (mm_bd2 (fX9_begins N (11 : Int32) v_ran v_trace) (fun (w_5 : Int32) (w_6 : List Int32) =>
    some ((x2 ^^^ v_ownNumber), w_5, w_6)))))) := rfl

theorem uf_X9_tellsAs (N : Nat) (M : Nat) (z0 : Int32) (z1 : Int32) (z2 : Int32) (z3 : Int32) (z4 : Int32) (z5 : List Int32) : fX9_tellsAs N (M + 1) z0 z1 z2 z3 z4 z5 = (fX9_tellsAso N (fX9_tellsAs N M)) z0 z1 z2 z3 z4 z5 := rfl

theorem uf_X9_tellsAso (N : Nat) (go : Int32 → Int32 → Int32 → Int32 → Int32 → List Int32 → Option (Int32 × Int32 × List Int32)) (x1 : Int32) (x2 : Int32) (v_ran : Int32) (v_ownKind : Int32) (v_ownNumber : Int32) (v_trace : List Int32) : fX9_tellsAso N go x1 x2 v_ran v_ownKind v_ownNumber v_trace = if x1 = (5 : Int32) then
    (mm_bd2 (fX9_begins N (60 : Int32) v_ran v_trace) (fun (w_21 : Int32) (w_22 : List Int32) =>
    mm_bd3 (go (3 : Int32) x2 w_21 v_ownKind v_ownNumber w_22) (fun (r_24 : Int32) (w_25 : Int32) (w_26 : List Int32) =>
    some ((r_24 ^^^ (5 : Int32)), w_25, w_26))))
    else (if x1 = (7 : Int32) then
    (mm_bd2 (fX9_begins N (81 : Int32) v_ran v_trace) (fun (w_14 : Int32) (w_15 : List Int32) =>
    mm_bd3 (go (4 : Int32) x2 w_14 v_ownKind v_ownNumber w_15) (fun (r_17 : Int32) (w_18 : Int32) (w_19 : List Int32) =>
    some ((r_17 - (1 : Int32)), w_18, w_19))))
    else (mm_bd2 (fX9_begins N (2 : Int32) v_ran v_trace) (fun (w_3 : Int32) (w_4 : List Int32) =>
    mm_bd3 (fX9_laysAs N 5 v_ownKind x2 w_3 v_ownKind v_ownNumber w_4) (fun (r_6 : Int32) (w_7 : Int32) (w_8 : List Int32) =>
    mm_bd3 (fX9_wearsAs N 4 v_ownKind (1 : Int32) w_7 v_ownKind v_ownNumber w_8) (fun (r_10 : Int32) (w_11 : Int32) (w_12 : List Int32) =>
    some ((r_6 - r_10), w_11, w_12)))))) := rfl

theorem uf_X9_laysAs_10 (N : Nat) (go : Int32 → Int32 → Int32 → Int32 → Int32 → List Int32 → Option (Int32 × Int32 × List Int32)) (x2 : Int32) (v_ran : Int32) (v_ownKind : Int32) (v_ownNumber : Int32) (v_trace : List Int32) : fX9_laysAs_10 N go x2 v_ran v_ownKind v_ownNumber v_trace = mm_bd2 (fX9_begins N (41 : Int32) v_ran v_trace) (fun (w_30 : Int32) (w_31 : List Int32) =>
    mm_bd3 (go (2 : Int32) (x2 + (1 : Int32)) w_30 v_ownKind v_ownNumber w_31) (fun (r_33 : Int32) (w_34 : Int32) (w_35 : List Int32) =>
    some (r_33, w_34, w_35))) := rfl

theorem uf_X9_wearsAs_10 (N : Nat) (go : Int32 → Int32 → Int32 → Int32 → Int32 → List Int32 → Option (Int32 × Int32 × List Int32)) (x2 : Int32) (v_ran : Int32) (v_ownKind : Int32) (v_ownNumber : Int32) (v_trace : List Int32) : fX9_wearsAs_10 N go x2 v_ran v_ownKind v_ownNumber v_trace = mm_bd2 (fX9_begins N (40 : Int32) v_ran v_trace) (fun (w_19 : Int32) (w_20 : List Int32) =>
    mm_bd3 (go (2 : Int32) x2 w_19 v_ownKind v_ownNumber w_20) (fun (r_22 : Int32) (w_23 : Int32) (w_24 : List Int32) =>
    some ((r_22 * (3 : Int32)), w_23, w_24))) := rfl

theorem uf_X9_wearsAs_36 (N : Nat) (go : Int32 → Int32 → Int32 → Int32 → Int32 → List Int32 → Option (Int32 × Int32 × List Int32)) (x2 : Int32) (v_ran : Int32) (v_ownKind : Int32) (v_ownNumber : Int32) (v_trace : List Int32) : fX9_wearsAs_36 N go x2 v_ran v_ownKind v_ownNumber v_trace = mm_bd2 (fX9_begins N (50 : Int32) v_ran v_trace) (fun (w_8 : Int32) (w_9 : List Int32) =>
    mm_bd3 (go (0 : Int32) x2 w_8 v_ownKind v_ownNumber w_9) (fun (r_11 : Int32) (w_12 : Int32) (w_13 : List Int32) =>
    mm_bd3 (fX9_foldsAs N 4 v_ownKind (2 : Int32) w_12 v_ownNumber w_13) (fun (r_15 : Int32) (w_16 : Int32) (w_17 : List Int32) =>
    some ((r_11 - r_15), w_16, w_17)))) := rfl

set_option maxRecDepth 20000 in
theorem ac9_0_0 (x b : Int32) (tr : List Int32) (hl : tr.length = 24) : wp (fX9_foldsAs 700 4 (0 : Int32) x (0 : Int32) b tr) (cu3 (fun r0 r1 r2 => r0 = (x + b) ∧ r1 = ((0 : Int32) + (1 : Int32)) ∧ r2 = (mm_is tr (0 : Int32) (1 : Int32)))) := by
  refine wp_of (uf_X9_foldsAs _ _ _ _ _ _ _) ?_
  refine wp_of (uf_X9_foldsAso _ _ _ _ _ _ _) ?_
  refine wp_ifn (by decide) ?_
  refine wp_ifn (by decide) ?_
  refine wp_in2 ?_
  refine wp_of (uf_X9_begins _ _ _ _) ?_
  refine wp_ifn (by decide) ?_
  refine wp_ck (i_inb (by decide) (by rw [show ((0 : Int32)).toInt = 0 from by decide]; (try simp only [is_len]); omega)) ?_
  refine wp_nm (fun y1 h1 => ?_)
  subst h1
  refine wp_of (uf_X9_begins_19 _ _ _) ?_
  refine wp_nm (fun y2 h2 => ?_)
  subst h2
  refine wp_so2 ?_
  show wp _ _
  exact wp_so3 ⟨rfl, rfl, rfl⟩

set_option maxRecDepth 20000 in
theorem ac9_0_1 (x b : Int32) (tr : List Int32) (hl : tr.length = 24) : wp (fX9_laysAs 700 5 (0 : Int32) x (0 : Int32) (0 : Int32) b tr) (cu3 (fun r0 r1 r2 => r0 = ((x + b) * (2 : Int32)) ∧ r1 = (((0 : Int32) + (1 : Int32)) + (1 : Int32)) ∧ r2 = (mm_is (mm_is tr (0 : Int32) (10 : Int32)) ((0 : Int32) + (1 : Int32)) (1 : Int32)))) := by
  refine wp_of (uf_X9_laysAs _ _ _ _ _ _ _ _) ?_
  refine wp_of (uf_X9_laysAso _ _ _ _ _ _ _ _) ?_
  refine wp_ifn (by decide) ?_
  refine wp_ifn (by decide) ?_
  refine wp_ifn (by decide) ?_
  refine wp_ifn (by decide) ?_
  refine wp_in2 ?_
  refine wp_of (uf_X9_begins _ _ _ _) ?_
  refine wp_ifn (by decide) ?_
  refine wp_ck (i_inb (by decide) (by rw [show ((0 : Int32)).toInt = 0 from by decide]; (try simp only [is_len]); omega)) ?_
  refine wp_nm (fun y1 h1 => ?_)
  subst h1
  refine wp_of (uf_X9_begins_19 _ _ _) ?_
  refine wp_nm (fun y2 h2 => ?_)
  subst h2
  refine wp_so2 ?_
  show wp _ _
  refine wp_in3 ?_
  refine wp_of (uf_X9_foldsAs _ _ _ _ _ _ _) ?_
  refine wp_of (uf_X9_foldsAso _ _ _ _ _ _ _) ?_
  refine wp_ifn (by decide) ?_
  refine wp_ifn (by decide) ?_
  refine wp_in2 ?_
  refine wp_of (uf_X9_begins _ _ _ _) ?_
  refine wp_ifn (by decide) ?_
  refine wp_ck (i_inb (by decide) (by rw [show (((0 : Int32) + (1 : Int32))).toInt = 1 from by decide]; (try simp only [is_len]); omega)) ?_
  refine wp_nm (fun y3 h3 => ?_)
  subst h3
  refine wp_of (uf_X9_begins_19 _ _ _) ?_
  refine wp_nm (fun y4 h4 => ?_)
  subst h4
  refine wp_so2 ?_
  show wp _ _
  refine wp_so3 ?_
  show wp _ _
  exact wp_so3 ⟨rfl, rfl, rfl⟩

set_option maxRecDepth 20000 in
theorem ac9_0_2 (x b : Int32) (tr : List Int32) (hl : tr.length = 24) : wp (fX9_wearsAs 700 4 (0 : Int32) x (0 : Int32) (0 : Int32) b tr) (cu3 (fun r0 r1 r2 => r0 = (x ^^^ b) ∧ r1 = ((0 : Int32) + (1 : Int32)) ∧ r2 = (mm_is tr (0 : Int32) (11 : Int32)))) := by
  refine wp_of (uf_X9_wearsAs _ _ _ _ _ _ _ _) ?_
  refine wp_of (uf_X9_wearsAso _ _ _ _ _ _ _ _) ?_
  refine wp_ifn (by decide) ?_
  refine wp_ifn (by decide) ?_
  refine wp_ifn (by decide) ?_
  refine wp_ifn (by decide) ?_
  refine wp_in2 ?_
  refine wp_of (uf_X9_begins _ _ _ _) ?_
  refine wp_ifn (by decide) ?_
  refine wp_ck (i_inb (by decide) (by rw [show ((0 : Int32)).toInt = 0 from by decide]; (try simp only [is_len]); omega)) ?_
  refine wp_nm (fun y1 h1 => ?_)
  subst h1
  refine wp_of (uf_X9_begins_19 _ _ _) ?_
  refine wp_nm (fun y2 h2 => ?_)
  subst h2
  refine wp_so2 ?_
  show wp _ _
  exact wp_so3 ⟨rfl, rfl, rfl⟩

set_option maxRecDepth 20000 in
theorem ac9_0_3 (x b : Int32) (tr : List Int32) (hl : tr.length = 24) : wp (fX9_tellsAs 700 4 (0 : Int32) x (0 : Int32) (0 : Int32) b tr) (cu3 (fun r0 r1 r2 => r0 = (((x + b) * (2 : Int32)) - ((1 : Int32) ^^^ b)) ∧ r1 = (((((0 : Int32) + (1 : Int32)) + (1 : Int32)) + (1 : Int32)) + (1 : Int32)) ∧ r2 = (mm_is (mm_is (mm_is (mm_is tr (0 : Int32) (2 : Int32)) ((0 : Int32) + (1 : Int32)) (10 : Int32)) (((0 : Int32) + (1 : Int32)) + (1 : Int32)) (1 : Int32)) ((((0 : Int32) + (1 : Int32)) + (1 : Int32)) + (1 : Int32)) (11 : Int32)))) := by
  refine wp_of (uf_X9_tellsAs _ _ _ _ _ _ _ _) ?_
  refine wp_of (uf_X9_tellsAso _ _ _ _ _ _ _ _) ?_
  refine wp_ifn (by decide) ?_
  refine wp_ifn (by decide) ?_
  refine wp_in2 ?_
  refine wp_of (uf_X9_begins _ _ _ _) ?_
  refine wp_ifn (by decide) ?_
  refine wp_ck (i_inb (by decide) (by rw [show ((0 : Int32)).toInt = 0 from by decide]; (try simp only [is_len]); omega)) ?_
  refine wp_nm (fun y1 h1 => ?_)
  subst h1
  refine wp_of (uf_X9_begins_19 _ _ _) ?_
  refine wp_nm (fun y2 h2 => ?_)
  subst h2
  refine wp_so2 ?_
  show wp _ _
  refine wp_in3 ?_
  refine wp_of (uf_X9_laysAs _ _ _ _ _ _ _ _) ?_
  refine wp_of (uf_X9_laysAso _ _ _ _ _ _ _ _) ?_
  refine wp_ifn (by decide) ?_
  refine wp_ifn (by decide) ?_
  refine wp_ifn (by decide) ?_
  refine wp_ifn (by decide) ?_
  refine wp_in2 ?_
  refine wp_of (uf_X9_begins _ _ _ _) ?_
  refine wp_ifn (by decide) ?_
  refine wp_ck (i_inb (by decide) (by rw [show (((0 : Int32) + (1 : Int32))).toInt = 1 from by decide]; (try simp only [is_len]); omega)) ?_
  refine wp_nm (fun y3 h3 => ?_)
  subst h3
  refine wp_of (uf_X9_begins_19 _ _ _) ?_
  refine wp_nm (fun y4 h4 => ?_)
  subst h4
  refine wp_so2 ?_
  show wp _ _
  refine wp_in3 ?_
  refine wp_of (uf_X9_foldsAs _ _ _ _ _ _ _) ?_
  refine wp_of (uf_X9_foldsAso _ _ _ _ _ _ _) ?_
  refine wp_ifn (by decide) ?_
  refine wp_ifn (by decide) ?_
  refine wp_in2 ?_
  refine wp_of (uf_X9_begins _ _ _ _) ?_
  refine wp_ifn (by decide) ?_
  refine wp_ck (i_inb (by decide) (by rw [show ((((0 : Int32) + (1 : Int32)) + (1 : Int32))).toInt = 2 from by decide]; (try simp only [is_len]); omega)) ?_
  refine wp_nm (fun y5 h5 => ?_)
  subst h5
  refine wp_of (uf_X9_begins_19 _ _ _) ?_
  refine wp_nm (fun y6 h6 => ?_)
  subst h6
  refine wp_so2 ?_
  show wp _ _
  refine wp_so3 ?_
  show wp _ _
  refine wp_so3 ?_
  show wp _ _
  refine wp_in3 ?_
  refine wp_of (uf_X9_wearsAs _ _ _ _ _ _ _ _) ?_
  refine wp_of (uf_X9_wearsAso _ _ _ _ _ _ _ _) ?_
  refine wp_ifn (by decide) ?_
  refine wp_ifn (by decide) ?_
  refine wp_ifn (by decide) ?_
  refine wp_ifn (by decide) ?_
  refine wp_in2 ?_
  refine wp_of (uf_X9_begins _ _ _ _) ?_
  refine wp_ifn (by decide) ?_
  refine wp_ck (i_inb (by decide) (by rw [show (((((0 : Int32) + (1 : Int32)) + (1 : Int32)) + (1 : Int32))).toInt = 3 from by decide]; (try simp only [is_len]); omega)) ?_
  refine wp_nm (fun y7 h7 => ?_)
  subst h7
  refine wp_of (uf_X9_begins_19 _ _ _) ?_
  refine wp_nm (fun y8 h8 => ?_)
  subst h8
  refine wp_so2 ?_
  show wp _ _
  refine wp_so3 ?_
  show wp _ _
  exact wp_so3 ⟨rfl, rfl, rfl⟩

set_option maxRecDepth 20000 in
theorem ac9_1_0 (x b : Int32) (tr : List Int32) (hl : tr.length = 24) : wp (fX9_foldsAs 700 4 (1 : Int32) x (0 : Int32) b tr) (cu3 (fun r0 r1 r2 => r0 = ((x + b) + (3 : Int32)) ∧ r1 = (((0 : Int32) + (1 : Int32)) + (1 : Int32)) ∧ r2 = (mm_is (mm_is tr (0 : Int32) (20 : Int32)) ((0 : Int32) + (1 : Int32)) (1 : Int32)))) := by
  refine wp_of (uf_X9_foldsAs _ _ _ _ _ _ _) ?_
  refine wp_of (uf_X9_foldsAso _ _ _ _ _ _ _) ?_
  refine wp_ifn (by decide) ?_
  refine wp_ifp (by decide) ?_
  refine wp_in2 ?_
  refine wp_of (uf_X9_begins _ _ _ _) ?_
  refine wp_ifn (by decide) ?_
  refine wp_ck (i_inb (by decide) (by rw [show ((0 : Int32)).toInt = 0 from by decide]; (try simp only [is_len]); omega)) ?_
  refine wp_nm (fun y1 h1 => ?_)
  subst h1
  refine wp_of (uf_X9_begins_19 _ _ _) ?_
  refine wp_nm (fun y2 h2 => ?_)
  subst h2
  refine wp_so2 ?_
  show wp _ _
  refine wp_in3 ?_
  refine wp_of (uf_X9_foldsAs _ _ _ _ _ _ _) ?_
  refine wp_of (uf_X9_foldsAso _ _ _ _ _ _ _) ?_
  refine wp_ifn (by decide) ?_
  refine wp_ifn (by decide) ?_
  refine wp_in2 ?_
  refine wp_of (uf_X9_begins _ _ _ _) ?_
  refine wp_ifn (by decide) ?_
  refine wp_ck (i_inb (by decide) (by rw [show (((0 : Int32) + (1 : Int32))).toInt = 1 from by decide]; (try simp only [is_len]); omega)) ?_
  refine wp_nm (fun y3 h3 => ?_)
  subst h3
  refine wp_of (uf_X9_begins_19 _ _ _) ?_
  refine wp_nm (fun y4 h4 => ?_)
  subst h4
  refine wp_so2 ?_
  show wp _ _
  refine wp_so3 ?_
  show wp _ _
  exact wp_so3 ⟨rfl, rfl, rfl⟩

set_option maxRecDepth 20000 in
theorem ac9_1_1 (x b : Int32) (tr : List Int32) (hl : tr.length = 24) : wp (fX9_laysAs 700 5 (1 : Int32) x (0 : Int32) (1 : Int32) b tr) (cu3 (fun r0 r1 r2 => r0 = (((x + b) + (3 : Int32)) * (2 : Int32)) ∧ r1 = ((((0 : Int32) + (1 : Int32)) + (1 : Int32)) + (1 : Int32)) ∧ r2 = (mm_is (mm_is (mm_is tr (0 : Int32) (10 : Int32)) ((0 : Int32) + (1 : Int32)) (20 : Int32)) (((0 : Int32) + (1 : Int32)) + (1 : Int32)) (1 : Int32)))) := by
  refine wp_of (uf_X9_laysAs _ _ _ _ _ _ _ _) ?_
  refine wp_of (uf_X9_laysAso _ _ _ _ _ _ _ _) ?_
  refine wp_ifn (by decide) ?_
  refine wp_ifn (by decide) ?_
  refine wp_ifn (by decide) ?_
  refine wp_ifn (by decide) ?_
  refine wp_in2 ?_
  refine wp_of (uf_X9_begins _ _ _ _) ?_
  refine wp_ifn (by decide) ?_
  refine wp_ck (i_inb (by decide) (by rw [show ((0 : Int32)).toInt = 0 from by decide]; (try simp only [is_len]); omega)) ?_
  refine wp_nm (fun y1 h1 => ?_)
  subst h1
  refine wp_of (uf_X9_begins_19 _ _ _) ?_
  refine wp_nm (fun y2 h2 => ?_)
  subst h2
  refine wp_so2 ?_
  show wp _ _
  refine wp_in3 ?_
  refine wp_of (uf_X9_foldsAs _ _ _ _ _ _ _) ?_
  refine wp_of (uf_X9_foldsAso _ _ _ _ _ _ _) ?_
  refine wp_ifn (by decide) ?_
  refine wp_ifp (by decide) ?_
  refine wp_in2 ?_
  refine wp_of (uf_X9_begins _ _ _ _) ?_
  refine wp_ifn (by decide) ?_
  refine wp_ck (i_inb (by decide) (by rw [show (((0 : Int32) + (1 : Int32))).toInt = 1 from by decide]; (try simp only [is_len]); omega)) ?_
  refine wp_nm (fun y3 h3 => ?_)
  subst h3
  refine wp_of (uf_X9_begins_19 _ _ _) ?_
  refine wp_nm (fun y4 h4 => ?_)
  subst h4
  refine wp_so2 ?_
  show wp _ _
  refine wp_in3 ?_
  refine wp_of (uf_X9_foldsAs _ _ _ _ _ _ _) ?_
  refine wp_of (uf_X9_foldsAso _ _ _ _ _ _ _) ?_
  refine wp_ifn (by decide) ?_
  refine wp_ifn (by decide) ?_
  refine wp_in2 ?_
  refine wp_of (uf_X9_begins _ _ _ _) ?_
  refine wp_ifn (by decide) ?_
  refine wp_ck (i_inb (by decide) (by rw [show ((((0 : Int32) + (1 : Int32)) + (1 : Int32))).toInt = 2 from by decide]; (try simp only [is_len]); omega)) ?_
  refine wp_nm (fun y5 h5 => ?_)
  subst h5
  refine wp_of (uf_X9_begins_19 _ _ _) ?_
  refine wp_nm (fun y6 h6 => ?_)
  subst h6
  refine wp_so2 ?_
  show wp _ _
  refine wp_so3 ?_
  show wp _ _
  refine wp_so3 ?_
  show wp _ _
  exact wp_so3 ⟨rfl, rfl, rfl⟩

set_option maxRecDepth 20000 in
theorem ac9_1_2 (x b : Int32) (tr : List Int32) (hl : tr.length = 24) : wp (fX9_wearsAs 700 4 (1 : Int32) x (0 : Int32) (1 : Int32) b tr) (cu3 (fun r0 r1 r2 => r0 = (x ^^^ b) ∧ r1 = ((0 : Int32) + (1 : Int32)) ∧ r2 = (mm_is tr (0 : Int32) (11 : Int32)))) := by
  refine wp_of (uf_X9_wearsAs _ _ _ _ _ _ _ _) ?_
  refine wp_of (uf_X9_wearsAso _ _ _ _ _ _ _ _) ?_
  refine wp_ifn (by decide) ?_
  refine wp_ifn (by decide) ?_
  refine wp_ifn (by decide) ?_
  refine wp_ifn (by decide) ?_
  refine wp_in2 ?_
  refine wp_of (uf_X9_begins _ _ _ _) ?_
  refine wp_ifn (by decide) ?_
  refine wp_ck (i_inb (by decide) (by rw [show ((0 : Int32)).toInt = 0 from by decide]; (try simp only [is_len]); omega)) ?_
  refine wp_nm (fun y1 h1 => ?_)
  subst h1
  refine wp_of (uf_X9_begins_19 _ _ _) ?_
  refine wp_nm (fun y2 h2 => ?_)
  subst h2
  refine wp_so2 ?_
  show wp _ _
  exact wp_so3 ⟨rfl, rfl, rfl⟩

set_option maxRecDepth 20000 in
theorem ac9_1_3 (x b : Int32) (tr : List Int32) (hl : tr.length = 24) : wp (fX9_tellsAs 700 4 (1 : Int32) x (0 : Int32) (1 : Int32) b tr) (cu3 (fun r0 r1 r2 => r0 = ((((x + b) + (3 : Int32)) * (2 : Int32)) - ((1 : Int32) ^^^ b)) ∧ r1 = ((((((0 : Int32) + (1 : Int32)) + (1 : Int32)) + (1 : Int32)) + (1 : Int32)) + (1 : Int32)) ∧ r2 = (mm_is (mm_is (mm_is (mm_is (mm_is tr (0 : Int32) (2 : Int32)) ((0 : Int32) + (1 : Int32)) (10 : Int32)) (((0 : Int32) + (1 : Int32)) + (1 : Int32)) (20 : Int32)) ((((0 : Int32) + (1 : Int32)) + (1 : Int32)) + (1 : Int32)) (1 : Int32)) (((((0 : Int32) + (1 : Int32)) + (1 : Int32)) + (1 : Int32)) + (1 : Int32)) (11 : Int32)))) := by
  refine wp_of (uf_X9_tellsAs _ _ _ _ _ _ _ _) ?_
  refine wp_of (uf_X9_tellsAso _ _ _ _ _ _ _ _) ?_
  refine wp_ifn (by decide) ?_
  refine wp_ifn (by decide) ?_
  refine wp_in2 ?_
  refine wp_of (uf_X9_begins _ _ _ _) ?_
  refine wp_ifn (by decide) ?_
  refine wp_ck (i_inb (by decide) (by rw [show ((0 : Int32)).toInt = 0 from by decide]; (try simp only [is_len]); omega)) ?_
  refine wp_nm (fun y1 h1 => ?_)
  subst h1
  refine wp_of (uf_X9_begins_19 _ _ _) ?_
  refine wp_nm (fun y2 h2 => ?_)
  subst h2
  refine wp_so2 ?_
  show wp _ _
  refine wp_in3 ?_
  refine wp_of (uf_X9_laysAs _ _ _ _ _ _ _ _) ?_
  refine wp_of (uf_X9_laysAso _ _ _ _ _ _ _ _) ?_
  refine wp_ifn (by decide) ?_
  refine wp_ifn (by decide) ?_
  refine wp_ifn (by decide) ?_
  refine wp_ifn (by decide) ?_
  refine wp_in2 ?_
  refine wp_of (uf_X9_begins _ _ _ _) ?_
  refine wp_ifn (by decide) ?_
  refine wp_ck (i_inb (by decide) (by rw [show (((0 : Int32) + (1 : Int32))).toInt = 1 from by decide]; (try simp only [is_len]); omega)) ?_
  refine wp_nm (fun y3 h3 => ?_)
  subst h3
  refine wp_of (uf_X9_begins_19 _ _ _) ?_
  refine wp_nm (fun y4 h4 => ?_)
  subst h4
  refine wp_so2 ?_
  show wp _ _
  refine wp_in3 ?_
  refine wp_of (uf_X9_foldsAs _ _ _ _ _ _ _) ?_
  refine wp_of (uf_X9_foldsAso _ _ _ _ _ _ _) ?_
  refine wp_ifn (by decide) ?_
  refine wp_ifp (by decide) ?_
  refine wp_in2 ?_
  refine wp_of (uf_X9_begins _ _ _ _) ?_
  refine wp_ifn (by decide) ?_
  refine wp_ck (i_inb (by decide) (by rw [show ((((0 : Int32) + (1 : Int32)) + (1 : Int32))).toInt = 2 from by decide]; (try simp only [is_len]); omega)) ?_
  refine wp_nm (fun y5 h5 => ?_)
  subst h5
  refine wp_of (uf_X9_begins_19 _ _ _) ?_
  refine wp_nm (fun y6 h6 => ?_)
  subst h6
  refine wp_so2 ?_
  show wp _ _
  refine wp_in3 ?_
  refine wp_of (uf_X9_foldsAs _ _ _ _ _ _ _) ?_
  refine wp_of (uf_X9_foldsAso _ _ _ _ _ _ _) ?_
  refine wp_ifn (by decide) ?_
  refine wp_ifn (by decide) ?_
  refine wp_in2 ?_
  refine wp_of (uf_X9_begins _ _ _ _) ?_
  refine wp_ifn (by decide) ?_
  refine wp_ck (i_inb (by decide) (by rw [show (((((0 : Int32) + (1 : Int32)) + (1 : Int32)) + (1 : Int32))).toInt = 3 from by decide]; (try simp only [is_len]); omega)) ?_
  refine wp_nm (fun y7 h7 => ?_)
  subst h7
  refine wp_of (uf_X9_begins_19 _ _ _) ?_
  refine wp_nm (fun y8 h8 => ?_)
  subst h8
  refine wp_so2 ?_
  show wp _ _
  refine wp_so3 ?_
  show wp _ _
  refine wp_so3 ?_
  show wp _ _
  refine wp_so3 ?_
  show wp _ _
  refine wp_in3 ?_
  refine wp_of (uf_X9_wearsAs _ _ _ _ _ _ _ _) ?_
  refine wp_of (uf_X9_wearsAso _ _ _ _ _ _ _ _) ?_
  refine wp_ifn (by decide) ?_
  refine wp_ifn (by decide) ?_
  refine wp_ifn (by decide) ?_
  refine wp_ifn (by decide) ?_
  refine wp_in2 ?_
  refine wp_of (uf_X9_begins _ _ _ _) ?_
  refine wp_ifn (by decide) ?_
  refine wp_ck (i_inb (by decide) (by rw [show ((((((0 : Int32) + (1 : Int32)) + (1 : Int32)) + (1 : Int32)) + (1 : Int32))).toInt = 4 from by decide]; (try simp only [is_len]); omega)) ?_
  refine wp_nm (fun y9 h9 => ?_)
  subst h9
  refine wp_of (uf_X9_begins_19 _ _ _) ?_
  refine wp_nm (fun y10 h10 => ?_)
  subst h10
  refine wp_so2 ?_
  show wp _ _
  refine wp_so3 ?_
  show wp _ _
  exact wp_so3 ⟨rfl, rfl, rfl⟩

set_option maxRecDepth 20000 in
theorem ac9_2_0 (x b : Int32) (tr : List Int32) (hl : tr.length = 24) : wp (fX9_foldsAs 700 4 (2 : Int32) x (0 : Int32) b tr) (cu3 (fun r0 r1 r2 => r0 = (x + b) ∧ r1 = ((0 : Int32) + (1 : Int32)) ∧ r2 = (mm_is tr (0 : Int32) (1 : Int32)))) := by
  refine wp_of (uf_X9_foldsAs _ _ _ _ _ _ _) ?_
  refine wp_of (uf_X9_foldsAso _ _ _ _ _ _ _) ?_
  refine wp_ifn (by decide) ?_
  refine wp_ifn (by decide) ?_
  refine wp_in2 ?_
  refine wp_of (uf_X9_begins _ _ _ _) ?_
  refine wp_ifn (by decide) ?_
  refine wp_ck (i_inb (by decide) (by rw [show ((0 : Int32)).toInt = 0 from by decide]; (try simp only [is_len]); omega)) ?_
  refine wp_nm (fun y1 h1 => ?_)
  subst h1
  refine wp_of (uf_X9_begins_19 _ _ _) ?_
  refine wp_nm (fun y2 h2 => ?_)
  subst h2
  refine wp_so2 ?_
  show wp _ _
  exact wp_so3 ⟨rfl, rfl, rfl⟩

set_option maxRecDepth 20000 in
theorem ac9_2_1 (x b : Int32) (tr : List Int32) (hl : tr.length = 24) : wp (fX9_laysAs 700 5 (2 : Int32) x (0 : Int32) (2 : Int32) b tr) (cu3 (fun r0 r1 r2 => r0 = (-((x + b) * (2 : Int32))) ∧ r1 = ((((0 : Int32) + (1 : Int32)) + (1 : Int32)) + (1 : Int32)) ∧ r2 = (mm_is (mm_is (mm_is tr (0 : Int32) (30 : Int32)) ((0 : Int32) + (1 : Int32)) (10 : Int32)) (((0 : Int32) + (1 : Int32)) + (1 : Int32)) (1 : Int32)))) := by
  refine wp_of (uf_X9_laysAs _ _ _ _ _ _ _ _) ?_
  refine wp_of (uf_X9_laysAso _ _ _ _ _ _ _ _) ?_
  refine wp_ifn (by decide) ?_
  refine wp_ifn (by decide) ?_
  refine wp_ifp (by decide) ?_
  refine wp_in2 ?_
  refine wp_of (uf_X9_begins _ _ _ _) ?_
  refine wp_ifn (by decide) ?_
  refine wp_ck (i_inb (by decide) (by rw [show ((0 : Int32)).toInt = 0 from by decide]; (try simp only [is_len]); omega)) ?_
  refine wp_nm (fun y1 h1 => ?_)
  subst h1
  refine wp_of (uf_X9_begins_19 _ _ _) ?_
  refine wp_nm (fun y2 h2 => ?_)
  subst h2
  refine wp_so2 ?_
  show wp _ _
  refine wp_in3 ?_
  refine wp_of (uf_X9_laysAs _ _ _ _ _ _ _ _) ?_
  refine wp_of (uf_X9_laysAso _ _ _ _ _ _ _ _) ?_
  refine wp_ifn (by decide) ?_
  refine wp_ifn (by decide) ?_
  refine wp_ifn (by decide) ?_
  refine wp_ifn (by decide) ?_
  refine wp_in2 ?_
  refine wp_of (uf_X9_begins _ _ _ _) ?_
  refine wp_ifn (by decide) ?_
  refine wp_ck (i_inb (by decide) (by rw [show (((0 : Int32) + (1 : Int32))).toInt = 1 from by decide]; (try simp only [is_len]); omega)) ?_
  refine wp_nm (fun y3 h3 => ?_)
  subst h3
  refine wp_of (uf_X9_begins_19 _ _ _) ?_
  refine wp_nm (fun y4 h4 => ?_)
  subst h4
  refine wp_so2 ?_
  show wp _ _
  refine wp_in3 ?_
  refine wp_of (uf_X9_foldsAs _ _ _ _ _ _ _) ?_
  refine wp_of (uf_X9_foldsAso _ _ _ _ _ _ _) ?_
  refine wp_ifn (by decide) ?_
  refine wp_ifn (by decide) ?_
  refine wp_in2 ?_
  refine wp_of (uf_X9_begins _ _ _ _) ?_
  refine wp_ifn (by decide) ?_
  refine wp_ck (i_inb (by decide) (by rw [show ((((0 : Int32) + (1 : Int32)) + (1 : Int32))).toInt = 2 from by decide]; (try simp only [is_len]); omega)) ?_
  refine wp_nm (fun y5 h5 => ?_)
  subst h5
  refine wp_of (uf_X9_begins_19 _ _ _) ?_
  refine wp_nm (fun y6 h6 => ?_)
  subst h6
  refine wp_so2 ?_
  show wp _ _
  refine wp_so3 ?_
  show wp _ _
  refine wp_so3 ?_
  show wp _ _
  exact wp_so3 ⟨rfl, rfl, rfl⟩

set_option maxRecDepth 20000 in
theorem ac9_2_2 (x b : Int32) (tr : List Int32) (hl : tr.length = 24) : wp (fX9_wearsAs 700 4 (2 : Int32) x (0 : Int32) (2 : Int32) b tr) (cu3 (fun r0 r1 r2 => r0 = (x ^^^ b) ∧ r1 = ((0 : Int32) + (1 : Int32)) ∧ r2 = (mm_is tr (0 : Int32) (11 : Int32)))) := by
  refine wp_of (uf_X9_wearsAs _ _ _ _ _ _ _ _) ?_
  refine wp_of (uf_X9_wearsAso _ _ _ _ _ _ _ _) ?_
  refine wp_ifn (by decide) ?_
  refine wp_ifn (by decide) ?_
  refine wp_ifn (by decide) ?_
  refine wp_ifn (by decide) ?_
  refine wp_in2 ?_
  refine wp_of (uf_X9_begins _ _ _ _) ?_
  refine wp_ifn (by decide) ?_
  refine wp_ck (i_inb (by decide) (by rw [show ((0 : Int32)).toInt = 0 from by decide]; (try simp only [is_len]); omega)) ?_
  refine wp_nm (fun y1 h1 => ?_)
  subst h1
  refine wp_of (uf_X9_begins_19 _ _ _) ?_
  refine wp_nm (fun y2 h2 => ?_)
  subst h2
  refine wp_so2 ?_
  show wp _ _
  exact wp_so3 ⟨rfl, rfl, rfl⟩

set_option maxRecDepth 20000 in
theorem ac9_2_3 (x b : Int32) (tr : List Int32) (hl : tr.length = 24) : wp (fX9_tellsAs 700 4 (2 : Int32) x (0 : Int32) (2 : Int32) b tr) (cu3 (fun r0 r1 r2 => r0 = ((-((x + b) * (2 : Int32))) - ((1 : Int32) ^^^ b)) ∧ r1 = ((((((0 : Int32) + (1 : Int32)) + (1 : Int32)) + (1 : Int32)) + (1 : Int32)) + (1 : Int32)) ∧ r2 = (mm_is (mm_is (mm_is (mm_is (mm_is tr (0 : Int32) (2 : Int32)) ((0 : Int32) + (1 : Int32)) (30 : Int32)) (((0 : Int32) + (1 : Int32)) + (1 : Int32)) (10 : Int32)) ((((0 : Int32) + (1 : Int32)) + (1 : Int32)) + (1 : Int32)) (1 : Int32)) (((((0 : Int32) + (1 : Int32)) + (1 : Int32)) + (1 : Int32)) + (1 : Int32)) (11 : Int32)))) := by
  refine wp_of (uf_X9_tellsAs _ _ _ _ _ _ _ _) ?_
  refine wp_of (uf_X9_tellsAso _ _ _ _ _ _ _ _) ?_
  refine wp_ifn (by decide) ?_
  refine wp_ifn (by decide) ?_
  refine wp_in2 ?_
  refine wp_of (uf_X9_begins _ _ _ _) ?_
  refine wp_ifn (by decide) ?_
  refine wp_ck (i_inb (by decide) (by rw [show ((0 : Int32)).toInt = 0 from by decide]; (try simp only [is_len]); omega)) ?_
  refine wp_nm (fun y1 h1 => ?_)
  subst h1
  refine wp_of (uf_X9_begins_19 _ _ _) ?_
  refine wp_nm (fun y2 h2 => ?_)
  subst h2
  refine wp_so2 ?_
  show wp _ _
  refine wp_in3 ?_
  refine wp_of (uf_X9_laysAs _ _ _ _ _ _ _ _) ?_
  refine wp_of (uf_X9_laysAso _ _ _ _ _ _ _ _) ?_
  refine wp_ifn (by decide) ?_
  refine wp_ifn (by decide) ?_
  refine wp_ifp (by decide) ?_
  refine wp_in2 ?_
  refine wp_of (uf_X9_begins _ _ _ _) ?_
  refine wp_ifn (by decide) ?_
  refine wp_ck (i_inb (by decide) (by rw [show (((0 : Int32) + (1 : Int32))).toInt = 1 from by decide]; (try simp only [is_len]); omega)) ?_
  refine wp_nm (fun y3 h3 => ?_)
  subst h3
  refine wp_of (uf_X9_begins_19 _ _ _) ?_
  refine wp_nm (fun y4 h4 => ?_)
  subst h4
  refine wp_so2 ?_
  show wp _ _
  refine wp_in3 ?_
  refine wp_of (uf_X9_laysAs _ _ _ _ _ _ _ _) ?_
  refine wp_of (uf_X9_laysAso _ _ _ _ _ _ _ _) ?_
  refine wp_ifn (by decide) ?_
  refine wp_ifn (by decide) ?_
  refine wp_ifn (by decide) ?_
  refine wp_ifn (by decide) ?_
  refine wp_in2 ?_
  refine wp_of (uf_X9_begins _ _ _ _) ?_
  refine wp_ifn (by decide) ?_
  refine wp_ck (i_inb (by decide) (by rw [show ((((0 : Int32) + (1 : Int32)) + (1 : Int32))).toInt = 2 from by decide]; (try simp only [is_len]); omega)) ?_
  refine wp_nm (fun y5 h5 => ?_)
  subst h5
  refine wp_of (uf_X9_begins_19 _ _ _) ?_
  refine wp_nm (fun y6 h6 => ?_)
  subst h6
  refine wp_so2 ?_
  show wp _ _
  refine wp_in3 ?_
  refine wp_of (uf_X9_foldsAs _ _ _ _ _ _ _) ?_
  refine wp_of (uf_X9_foldsAso _ _ _ _ _ _ _) ?_
  refine wp_ifn (by decide) ?_
  refine wp_ifn (by decide) ?_
  refine wp_in2 ?_
  refine wp_of (uf_X9_begins _ _ _ _) ?_
  refine wp_ifn (by decide) ?_
  refine wp_ck (i_inb (by decide) (by rw [show (((((0 : Int32) + (1 : Int32)) + (1 : Int32)) + (1 : Int32))).toInt = 3 from by decide]; (try simp only [is_len]); omega)) ?_
  refine wp_nm (fun y7 h7 => ?_)
  subst h7
  refine wp_of (uf_X9_begins_19 _ _ _) ?_
  refine wp_nm (fun y8 h8 => ?_)
  subst h8
  refine wp_so2 ?_
  show wp _ _
  refine wp_so3 ?_
  show wp _ _
  refine wp_so3 ?_
  show wp _ _
  refine wp_so3 ?_
  show wp _ _
  refine wp_in3 ?_
  refine wp_of (uf_X9_wearsAs _ _ _ _ _ _ _ _) ?_
  refine wp_of (uf_X9_wearsAso _ _ _ _ _ _ _ _) ?_
  refine wp_ifn (by decide) ?_
  refine wp_ifn (by decide) ?_
  refine wp_ifn (by decide) ?_
  refine wp_ifn (by decide) ?_
  refine wp_in2 ?_
  refine wp_of (uf_X9_begins _ _ _ _) ?_
  refine wp_ifn (by decide) ?_
  refine wp_ck (i_inb (by decide) (by rw [show ((((((0 : Int32) + (1 : Int32)) + (1 : Int32)) + (1 : Int32)) + (1 : Int32))).toInt = 4 from by decide]; (try simp only [is_len]); omega)) ?_
  refine wp_nm (fun y9 h9 => ?_)
  subst h9
  refine wp_of (uf_X9_begins_19 _ _ _) ?_
  refine wp_nm (fun y10 h10 => ?_)
  subst h10
  refine wp_so2 ?_
  show wp _ _
  refine wp_so3 ?_
  show wp _ _
  exact wp_so3 ⟨rfl, rfl, rfl⟩

set_option maxRecDepth 20000 in
theorem ac9_3_0 (x b : Int32) (tr : List Int32) (hl : tr.length = 24) : wp (fX9_foldsAs 700 4 (3 : Int32) x (0 : Int32) b tr) (cu3 (fun r0 r1 r2 => r0 = (x + b) ∧ r1 = ((0 : Int32) + (1 : Int32)) ∧ r2 = (mm_is tr (0 : Int32) (1 : Int32)))) := by
  refine wp_of (uf_X9_foldsAs _ _ _ _ _ _ _) ?_
  refine wp_of (uf_X9_foldsAso _ _ _ _ _ _ _) ?_
  refine wp_ifn (by decide) ?_
  refine wp_ifn (by decide) ?_
  refine wp_in2 ?_
  refine wp_of (uf_X9_begins _ _ _ _) ?_
  refine wp_ifn (by decide) ?_
  refine wp_ck (i_inb (by decide) (by rw [show ((0 : Int32)).toInt = 0 from by decide]; (try simp only [is_len]); omega)) ?_
  refine wp_nm (fun y1 h1 => ?_)
  subst h1
  refine wp_of (uf_X9_begins_19 _ _ _) ?_
  refine wp_nm (fun y2 h2 => ?_)
  subst h2
  refine wp_so2 ?_
  show wp _ _
  exact wp_so3 ⟨rfl, rfl, rfl⟩

set_option maxRecDepth 20000 in
theorem ac9_3_1 (x b : Int32) (tr : List Int32) (hl : tr.length = 24) : wp (fX9_laysAs 700 5 (3 : Int32) x (0 : Int32) (3 : Int32) b tr) (cu3 (fun r0 r1 r2 => r0 = (-(((x + (1 : Int32)) + b) * (2 : Int32))) ∧ r1 = (((((0 : Int32) + (1 : Int32)) + (1 : Int32)) + (1 : Int32)) + (1 : Int32)) ∧ r2 = (mm_is (mm_is (mm_is (mm_is tr (0 : Int32) (41 : Int32)) ((0 : Int32) + (1 : Int32)) (30 : Int32)) (((0 : Int32) + (1 : Int32)) + (1 : Int32)) (10 : Int32)) ((((0 : Int32) + (1 : Int32)) + (1 : Int32)) + (1 : Int32)) (1 : Int32)))) := by
  refine wp_of (uf_X9_laysAs _ _ _ _ _ _ _ _) ?_
  refine wp_of (uf_X9_laysAso _ _ _ _ _ _ _ _) ?_
  refine wp_ifp (by decide) ?_
  refine wp_of (uf_X9_laysAs_10 _ _ _ _ _ _ _) ?_
  refine wp_in2 ?_
  refine wp_of (uf_X9_begins _ _ _ _) ?_
  refine wp_ifn (by decide) ?_
  refine wp_ck (i_inb (by decide) (by rw [show ((0 : Int32)).toInt = 0 from by decide]; (try simp only [is_len]); omega)) ?_
  refine wp_nm (fun y1 h1 => ?_)
  subst h1
  refine wp_of (uf_X9_begins_19 _ _ _) ?_
  refine wp_nm (fun y2 h2 => ?_)
  subst h2
  refine wp_so2 ?_
  show wp _ _
  refine wp_in3 ?_
  refine wp_of (uf_X9_laysAs _ _ _ _ _ _ _ _) ?_
  refine wp_of (uf_X9_laysAso _ _ _ _ _ _ _ _) ?_
  refine wp_ifn (by decide) ?_
  refine wp_ifn (by decide) ?_
  refine wp_ifp (by decide) ?_
  refine wp_in2 ?_
  refine wp_of (uf_X9_begins _ _ _ _) ?_
  refine wp_ifn (by decide) ?_
  refine wp_ck (i_inb (by decide) (by rw [show (((0 : Int32) + (1 : Int32))).toInt = 1 from by decide]; (try simp only [is_len]); omega)) ?_
  refine wp_nm (fun y3 h3 => ?_)
  subst h3
  refine wp_of (uf_X9_begins_19 _ _ _) ?_
  refine wp_nm (fun y4 h4 => ?_)
  subst h4
  refine wp_so2 ?_
  show wp _ _
  refine wp_in3 ?_
  refine wp_of (uf_X9_laysAs _ _ _ _ _ _ _ _) ?_
  refine wp_of (uf_X9_laysAso _ _ _ _ _ _ _ _) ?_
  refine wp_ifn (by decide) ?_
  refine wp_ifn (by decide) ?_
  refine wp_ifn (by decide) ?_
  refine wp_ifn (by decide) ?_
  refine wp_in2 ?_
  refine wp_of (uf_X9_begins _ _ _ _) ?_
  refine wp_ifn (by decide) ?_
  refine wp_ck (i_inb (by decide) (by rw [show ((((0 : Int32) + (1 : Int32)) + (1 : Int32))).toInt = 2 from by decide]; (try simp only [is_len]); omega)) ?_
  refine wp_nm (fun y5 h5 => ?_)
  subst h5
  refine wp_of (uf_X9_begins_19 _ _ _) ?_
  refine wp_nm (fun y6 h6 => ?_)
  subst h6
  refine wp_so2 ?_
  show wp _ _
  refine wp_in3 ?_
  refine wp_of (uf_X9_foldsAs _ _ _ _ _ _ _) ?_
  refine wp_of (uf_X9_foldsAso _ _ _ _ _ _ _) ?_
  refine wp_ifn (by decide) ?_
  refine wp_ifn (by decide) ?_
  refine wp_in2 ?_
  refine wp_of (uf_X9_begins _ _ _ _) ?_
  refine wp_ifn (by decide) ?_
  refine wp_ck (i_inb (by decide) (by rw [show (((((0 : Int32) + (1 : Int32)) + (1 : Int32)) + (1 : Int32))).toInt = 3 from by decide]; (try simp only [is_len]); omega)) ?_
  refine wp_nm (fun y7 h7 => ?_)
  subst h7
  refine wp_of (uf_X9_begins_19 _ _ _) ?_
  refine wp_nm (fun y8 h8 => ?_)
  subst h8
  refine wp_so2 ?_
  show wp _ _
  refine wp_so3 ?_
  show wp _ _
  refine wp_so3 ?_
  show wp _ _
  refine wp_so3 ?_
  show wp _ _
  exact wp_so3 ⟨rfl, rfl, rfl⟩

set_option maxRecDepth 20000 in
theorem ac9_3_2 (x b : Int32) (tr : List Int32) (hl : tr.length = 24) : wp (fX9_wearsAs 700 4 (3 : Int32) x (0 : Int32) (3 : Int32) b tr) (cu3 (fun r0 r1 r2 => r0 = ((x ^^^ b) * (3 : Int32)) ∧ r1 = (((0 : Int32) + (1 : Int32)) + (1 : Int32)) ∧ r2 = (mm_is (mm_is tr (0 : Int32) (40 : Int32)) ((0 : Int32) + (1 : Int32)) (11 : Int32)))) := by
  refine wp_of (uf_X9_wearsAs _ _ _ _ _ _ _ _) ?_
  refine wp_of (uf_X9_wearsAso _ _ _ _ _ _ _ _) ?_
  refine wp_ifp (by decide) ?_
  refine wp_of (uf_X9_wearsAs_10 _ _ _ _ _ _ _) ?_
  refine wp_in2 ?_
  refine wp_of (uf_X9_begins _ _ _ _) ?_
  refine wp_ifn (by decide) ?_
  refine wp_ck (i_inb (by decide) (by rw [show ((0 : Int32)).toInt = 0 from by decide]; (try simp only [is_len]); omega)) ?_
  refine wp_nm (fun y1 h1 => ?_)
  subst h1
  refine wp_of (uf_X9_begins_19 _ _ _) ?_
  refine wp_nm (fun y2 h2 => ?_)
  subst h2
  refine wp_so2 ?_
  show wp _ _
  refine wp_in3 ?_
  refine wp_of (uf_X9_wearsAs _ _ _ _ _ _ _ _) ?_
  refine wp_of (uf_X9_wearsAso _ _ _ _ _ _ _ _) ?_
  refine wp_ifn (by decide) ?_
  refine wp_ifn (by decide) ?_
  refine wp_ifn (by decide) ?_
  refine wp_ifn (by decide) ?_
  refine wp_in2 ?_
  refine wp_of (uf_X9_begins _ _ _ _) ?_
  refine wp_ifn (by decide) ?_
  refine wp_ck (i_inb (by decide) (by rw [show (((0 : Int32) + (1 : Int32))).toInt = 1 from by decide]; (try simp only [is_len]); omega)) ?_
  refine wp_nm (fun y3 h3 => ?_)
  subst h3
  refine wp_of (uf_X9_begins_19 _ _ _) ?_
  refine wp_nm (fun y4 h4 => ?_)
  subst h4
  refine wp_so2 ?_
  show wp _ _
  refine wp_so3 ?_
  show wp _ _
  exact wp_so3 ⟨rfl, rfl, rfl⟩

set_option maxRecDepth 20000 in
theorem ac9_3_3 (x b : Int32) (tr : List Int32) (hl : tr.length = 24) : wp (fX9_tellsAs 700 4 (3 : Int32) x (0 : Int32) (3 : Int32) b tr) (cu3 (fun r0 r1 r2 => r0 = ((-(((x + (1 : Int32)) + b) * (2 : Int32))) - (((1 : Int32) ^^^ b) * (3 : Int32))) ∧ r1 = ((((((((0 : Int32) + (1 : Int32)) + (1 : Int32)) + (1 : Int32)) + (1 : Int32)) + (1 : Int32)) + (1 : Int32)) + (1 : Int32)) ∧ r2 = (mm_is (mm_is (mm_is (mm_is (mm_is (mm_is (mm_is tr (0 : Int32) (2 : Int32)) ((0 : Int32) + (1 : Int32)) (41 : Int32)) (((0 : Int32) + (1 : Int32)) + (1 : Int32)) (30 : Int32)) ((((0 : Int32) + (1 : Int32)) + (1 : Int32)) + (1 : Int32)) (10 : Int32)) (((((0 : Int32) + (1 : Int32)) + (1 : Int32)) + (1 : Int32)) + (1 : Int32)) (1 : Int32)) ((((((0 : Int32) + (1 : Int32)) + (1 : Int32)) + (1 : Int32)) + (1 : Int32)) + (1 : Int32)) (40 : Int32)) (((((((0 : Int32) + (1 : Int32)) + (1 : Int32)) + (1 : Int32)) + (1 : Int32)) + (1 : Int32)) + (1 : Int32)) (11 : Int32)))) := by
  refine wp_of (uf_X9_tellsAs _ _ _ _ _ _ _ _) ?_
  refine wp_of (uf_X9_tellsAso _ _ _ _ _ _ _ _) ?_
  refine wp_ifn (by decide) ?_
  refine wp_ifn (by decide) ?_
  refine wp_in2 ?_
  refine wp_of (uf_X9_begins _ _ _ _) ?_
  refine wp_ifn (by decide) ?_
  refine wp_ck (i_inb (by decide) (by rw [show ((0 : Int32)).toInt = 0 from by decide]; (try simp only [is_len]); omega)) ?_
  refine wp_nm (fun y1 h1 => ?_)
  subst h1
  refine wp_of (uf_X9_begins_19 _ _ _) ?_
  refine wp_nm (fun y2 h2 => ?_)
  subst h2
  refine wp_so2 ?_
  show wp _ _
  refine wp_in3 ?_
  refine wp_of (uf_X9_laysAs _ _ _ _ _ _ _ _) ?_
  refine wp_of (uf_X9_laysAso _ _ _ _ _ _ _ _) ?_
  refine wp_ifp (by decide) ?_
  refine wp_of (uf_X9_laysAs_10 _ _ _ _ _ _ _) ?_
  refine wp_in2 ?_
  refine wp_of (uf_X9_begins _ _ _ _) ?_
  refine wp_ifn (by decide) ?_
  refine wp_ck (i_inb (by decide) (by rw [show (((0 : Int32) + (1 : Int32))).toInt = 1 from by decide]; (try simp only [is_len]); omega)) ?_
  refine wp_nm (fun y3 h3 => ?_)
  subst h3
  refine wp_of (uf_X9_begins_19 _ _ _) ?_
  refine wp_nm (fun y4 h4 => ?_)
  subst h4
  refine wp_so2 ?_
  show wp _ _
  refine wp_in3 ?_
  refine wp_of (uf_X9_laysAs _ _ _ _ _ _ _ _) ?_
  refine wp_of (uf_X9_laysAso _ _ _ _ _ _ _ _) ?_
  refine wp_ifn (by decide) ?_
  refine wp_ifn (by decide) ?_
  refine wp_ifp (by decide) ?_
  refine wp_in2 ?_
  refine wp_of (uf_X9_begins _ _ _ _) ?_
  refine wp_ifn (by decide) ?_
  refine wp_ck (i_inb (by decide) (by rw [show ((((0 : Int32) + (1 : Int32)) + (1 : Int32))).toInt = 2 from by decide]; (try simp only [is_len]); omega)) ?_
  refine wp_nm (fun y5 h5 => ?_)
  subst h5
  refine wp_of (uf_X9_begins_19 _ _ _) ?_
  refine wp_nm (fun y6 h6 => ?_)
  subst h6
  refine wp_so2 ?_
  show wp _ _
  refine wp_in3 ?_
  refine wp_of (uf_X9_laysAs _ _ _ _ _ _ _ _) ?_
  refine wp_of (uf_X9_laysAso _ _ _ _ _ _ _ _) ?_
  refine wp_ifn (by decide) ?_
  refine wp_ifn (by decide) ?_
  refine wp_ifn (by decide) ?_
  refine wp_ifn (by decide) ?_
  refine wp_in2 ?_
  refine wp_of (uf_X9_begins _ _ _ _) ?_
  refine wp_ifn (by decide) ?_
  refine wp_ck (i_inb (by decide) (by rw [show (((((0 : Int32) + (1 : Int32)) + (1 : Int32)) + (1 : Int32))).toInt = 3 from by decide]; (try simp only [is_len]); omega)) ?_
  refine wp_nm (fun y7 h7 => ?_)
  subst h7
  refine wp_of (uf_X9_begins_19 _ _ _) ?_
  refine wp_nm (fun y8 h8 => ?_)
  subst h8
  refine wp_so2 ?_
  show wp _ _
  refine wp_in3 ?_
  refine wp_of (uf_X9_foldsAs _ _ _ _ _ _ _) ?_
  refine wp_of (uf_X9_foldsAso _ _ _ _ _ _ _) ?_
  refine wp_ifn (by decide) ?_
  refine wp_ifn (by decide) ?_
  refine wp_in2 ?_
  refine wp_of (uf_X9_begins _ _ _ _) ?_
  refine wp_ifn (by decide) ?_
  refine wp_ck (i_inb (by decide) (by rw [show ((((((0 : Int32) + (1 : Int32)) + (1 : Int32)) + (1 : Int32)) + (1 : Int32))).toInt = 4 from by decide]; (try simp only [is_len]); omega)) ?_
  refine wp_nm (fun y9 h9 => ?_)
  subst h9
  refine wp_of (uf_X9_begins_19 _ _ _) ?_
  refine wp_nm (fun y10 h10 => ?_)
  subst h10
  refine wp_so2 ?_
  show wp _ _
  refine wp_so3 ?_
  show wp _ _
  refine wp_so3 ?_
  show wp _ _
  refine wp_so3 ?_
  show wp _ _
  refine wp_so3 ?_
  show wp _ _
  refine wp_in3 ?_
  refine wp_of (uf_X9_wearsAs _ _ _ _ _ _ _ _) ?_
  refine wp_of (uf_X9_wearsAso _ _ _ _ _ _ _ _) ?_
  refine wp_ifp (by decide) ?_
  refine wp_of (uf_X9_wearsAs_10 _ _ _ _ _ _ _) ?_
  refine wp_in2 ?_
  refine wp_of (uf_X9_begins _ _ _ _) ?_
  refine wp_ifn (by decide) ?_
  refine wp_ck (i_inb (by decide) (by rw [show (((((((0 : Int32) + (1 : Int32)) + (1 : Int32)) + (1 : Int32)) + (1 : Int32)) + (1 : Int32))).toInt = 5 from by decide]; (try simp only [is_len]); omega)) ?_
  refine wp_nm (fun y11 h11 => ?_)
  subst h11
  refine wp_of (uf_X9_begins_19 _ _ _) ?_
  refine wp_nm (fun y12 h12 => ?_)
  subst h12
  refine wp_so2 ?_
  show wp _ _
  refine wp_in3 ?_
  refine wp_of (uf_X9_wearsAs _ _ _ _ _ _ _ _) ?_
  refine wp_of (uf_X9_wearsAso _ _ _ _ _ _ _ _) ?_
  refine wp_ifn (by decide) ?_
  refine wp_ifn (by decide) ?_
  refine wp_ifn (by decide) ?_
  refine wp_ifn (by decide) ?_
  refine wp_in2 ?_
  refine wp_of (uf_X9_begins _ _ _ _) ?_
  refine wp_ifn (by decide) ?_
  refine wp_ck (i_inb (by decide) (by rw [show ((((((((0 : Int32) + (1 : Int32)) + (1 : Int32)) + (1 : Int32)) + (1 : Int32)) + (1 : Int32)) + (1 : Int32))).toInt = 6 from by decide]; (try simp only [is_len]); omega)) ?_
  refine wp_nm (fun y13 h13 => ?_)
  subst h13
  refine wp_of (uf_X9_begins_19 _ _ _) ?_
  refine wp_nm (fun y14 h14 => ?_)
  subst h14
  refine wp_so2 ?_
  show wp _ _
  refine wp_so3 ?_
  show wp _ _
  refine wp_so3 ?_
  show wp _ _
  exact wp_so3 ⟨rfl, rfl, rfl⟩

set_option maxRecDepth 20000 in
theorem ac9_4_0 (x b : Int32) (tr : List Int32) (hl : tr.length = 24) : wp (fX9_foldsAs 700 4 (4 : Int32) x (0 : Int32) b tr) (cu3 (fun r0 r1 r2 => r0 = (x + b) ∧ r1 = ((0 : Int32) + (1 : Int32)) ∧ r2 = (mm_is tr (0 : Int32) (1 : Int32)))) := by
  refine wp_of (uf_X9_foldsAs _ _ _ _ _ _ _) ?_
  refine wp_of (uf_X9_foldsAso _ _ _ _ _ _ _) ?_
  refine wp_ifn (by decide) ?_
  refine wp_ifn (by decide) ?_
  refine wp_in2 ?_
  refine wp_of (uf_X9_begins _ _ _ _) ?_
  refine wp_ifn (by decide) ?_
  refine wp_ck (i_inb (by decide) (by rw [show ((0 : Int32)).toInt = 0 from by decide]; (try simp only [is_len]); omega)) ?_
  refine wp_nm (fun y1 h1 => ?_)
  subst h1
  refine wp_of (uf_X9_begins_19 _ _ _) ?_
  refine wp_nm (fun y2 h2 => ?_)
  subst h2
  refine wp_so2 ?_
  show wp _ _
  exact wp_so3 ⟨rfl, rfl, rfl⟩

set_option maxRecDepth 20000 in
theorem ac9_4_1 (x b : Int32) (tr : List Int32) (hl : tr.length = 24) : wp (fX9_laysAs 700 5 (4 : Int32) x (0 : Int32) (4 : Int32) b tr) (cu3 (fun r0 r1 r2 => r0 = ((x + b) * (2 : Int32)) ∧ r1 = (((0 : Int32) + (1 : Int32)) + (1 : Int32)) ∧ r2 = (mm_is (mm_is tr (0 : Int32) (10 : Int32)) ((0 : Int32) + (1 : Int32)) (1 : Int32)))) := by
  refine wp_of (uf_X9_laysAs _ _ _ _ _ _ _ _) ?_
  refine wp_of (uf_X9_laysAso _ _ _ _ _ _ _ _) ?_
  refine wp_ifn (by decide) ?_
  refine wp_ifn (by decide) ?_
  refine wp_ifn (by decide) ?_
  refine wp_ifn (by decide) ?_
  refine wp_in2 ?_
  refine wp_of (uf_X9_begins _ _ _ _) ?_
  refine wp_ifn (by decide) ?_
  refine wp_ck (i_inb (by decide) (by rw [show ((0 : Int32)).toInt = 0 from by decide]; (try simp only [is_len]); omega)) ?_
  refine wp_nm (fun y1 h1 => ?_)
  subst h1
  refine wp_of (uf_X9_begins_19 _ _ _) ?_
  refine wp_nm (fun y2 h2 => ?_)
  subst h2
  refine wp_so2 ?_
  show wp _ _
  refine wp_in3 ?_
  refine wp_of (uf_X9_foldsAs _ _ _ _ _ _ _) ?_
  refine wp_of (uf_X9_foldsAso _ _ _ _ _ _ _) ?_
  refine wp_ifn (by decide) ?_
  refine wp_ifn (by decide) ?_
  refine wp_in2 ?_
  refine wp_of (uf_X9_begins _ _ _ _) ?_
  refine wp_ifn (by decide) ?_
  refine wp_ck (i_inb (by decide) (by rw [show (((0 : Int32) + (1 : Int32))).toInt = 1 from by decide]; (try simp only [is_len]); omega)) ?_
  refine wp_nm (fun y3 h3 => ?_)
  subst h3
  refine wp_of (uf_X9_begins_19 _ _ _) ?_
  refine wp_nm (fun y4 h4 => ?_)
  subst h4
  refine wp_so2 ?_
  show wp _ _
  refine wp_so3 ?_
  show wp _ _
  exact wp_so3 ⟨rfl, rfl, rfl⟩

set_option maxRecDepth 20000 in
theorem ac9_4_2 (x b : Int32) (tr : List Int32) (hl : tr.length = 24) : wp (fX9_wearsAs 700 4 (4 : Int32) x (0 : Int32) (4 : Int32) b tr) (cu3 (fun r0 r1 r2 => r0 = ((x ^^^ b) - ((2 : Int32) + b)) ∧ r1 = ((((0 : Int32) + (1 : Int32)) + (1 : Int32)) + (1 : Int32)) ∧ r2 = (mm_is (mm_is (mm_is tr (0 : Int32) (50 : Int32)) ((0 : Int32) + (1 : Int32)) (11 : Int32)) (((0 : Int32) + (1 : Int32)) + (1 : Int32)) (1 : Int32)))) := by
  refine wp_of (uf_X9_wearsAs _ _ _ _ _ _ _ _) ?_
  refine wp_of (uf_X9_wearsAso _ _ _ _ _ _ _ _) ?_
  refine wp_ifn (by decide) ?_
  refine wp_ifn (by decide) ?_
  refine wp_ifp (by decide) ?_
  refine wp_of (uf_X9_wearsAs_36 _ _ _ _ _ _ _) ?_
  refine wp_in2 ?_
  refine wp_of (uf_X9_begins _ _ _ _) ?_
  refine wp_ifn (by decide) ?_
  refine wp_ck (i_inb (by decide) (by rw [show ((0 : Int32)).toInt = 0 from by decide]; (try simp only [is_len]); omega)) ?_
  refine wp_nm (fun y1 h1 => ?_)
  subst h1
  refine wp_of (uf_X9_begins_19 _ _ _) ?_
  refine wp_nm (fun y2 h2 => ?_)
  subst h2
  refine wp_so2 ?_
  show wp _ _
  refine wp_in3 ?_
  refine wp_of (uf_X9_wearsAs _ _ _ _ _ _ _ _) ?_
  refine wp_of (uf_X9_wearsAso _ _ _ _ _ _ _ _) ?_
  refine wp_ifn (by decide) ?_
  refine wp_ifn (by decide) ?_
  refine wp_ifn (by decide) ?_
  refine wp_ifn (by decide) ?_
  refine wp_in2 ?_
  refine wp_of (uf_X9_begins _ _ _ _) ?_
  refine wp_ifn (by decide) ?_
  refine wp_ck (i_inb (by decide) (by rw [show (((0 : Int32) + (1 : Int32))).toInt = 1 from by decide]; (try simp only [is_len]); omega)) ?_
  refine wp_nm (fun y3 h3 => ?_)
  subst h3
  refine wp_of (uf_X9_begins_19 _ _ _) ?_
  refine wp_nm (fun y4 h4 => ?_)
  subst h4
  refine wp_so2 ?_
  show wp _ _
  refine wp_so3 ?_
  show wp _ _
  refine wp_in3 ?_
  refine wp_of (uf_X9_foldsAs _ _ _ _ _ _ _) ?_
  refine wp_of (uf_X9_foldsAso _ _ _ _ _ _ _) ?_
  refine wp_ifn (by decide) ?_
  refine wp_ifn (by decide) ?_
  refine wp_in2 ?_
  refine wp_of (uf_X9_begins _ _ _ _) ?_
  refine wp_ifn (by decide) ?_
  refine wp_ck (i_inb (by decide) (by rw [show ((((0 : Int32) + (1 : Int32)) + (1 : Int32))).toInt = 2 from by decide]; (try simp only [is_len]); omega)) ?_
  refine wp_nm (fun y5 h5 => ?_)
  subst h5
  refine wp_of (uf_X9_begins_19 _ _ _) ?_
  refine wp_nm (fun y6 h6 => ?_)
  subst h6
  refine wp_so2 ?_
  show wp _ _
  refine wp_so3 ?_
  show wp _ _
  exact wp_so3 ⟨rfl, rfl, rfl⟩

set_option maxRecDepth 20000 in
theorem ac9_4_3 (x b : Int32) (tr : List Int32) (hl : tr.length = 24) : wp (fX9_tellsAs 700 4 (4 : Int32) x (0 : Int32) (4 : Int32) b tr) (cu3 (fun r0 r1 r2 => r0 = (((x + b) * (2 : Int32)) - (((1 : Int32) ^^^ b) - ((2 : Int32) + b))) ∧ r1 = (((((((0 : Int32) + (1 : Int32)) + (1 : Int32)) + (1 : Int32)) + (1 : Int32)) + (1 : Int32)) + (1 : Int32)) ∧ r2 = (mm_is (mm_is (mm_is (mm_is (mm_is (mm_is tr (0 : Int32) (2 : Int32)) ((0 : Int32) + (1 : Int32)) (10 : Int32)) (((0 : Int32) + (1 : Int32)) + (1 : Int32)) (1 : Int32)) ((((0 : Int32) + (1 : Int32)) + (1 : Int32)) + (1 : Int32)) (50 : Int32)) (((((0 : Int32) + (1 : Int32)) + (1 : Int32)) + (1 : Int32)) + (1 : Int32)) (11 : Int32)) ((((((0 : Int32) + (1 : Int32)) + (1 : Int32)) + (1 : Int32)) + (1 : Int32)) + (1 : Int32)) (1 : Int32)))) := by
  refine wp_of (uf_X9_tellsAs _ _ _ _ _ _ _ _) ?_
  refine wp_of (uf_X9_tellsAso _ _ _ _ _ _ _ _) ?_
  refine wp_ifn (by decide) ?_
  refine wp_ifn (by decide) ?_
  refine wp_in2 ?_
  refine wp_of (uf_X9_begins _ _ _ _) ?_
  refine wp_ifn (by decide) ?_
  refine wp_ck (i_inb (by decide) (by rw [show ((0 : Int32)).toInt = 0 from by decide]; (try simp only [is_len]); omega)) ?_
  refine wp_nm (fun y1 h1 => ?_)
  subst h1
  refine wp_of (uf_X9_begins_19 _ _ _) ?_
  refine wp_nm (fun y2 h2 => ?_)
  subst h2
  refine wp_so2 ?_
  show wp _ _
  refine wp_in3 ?_
  refine wp_of (uf_X9_laysAs _ _ _ _ _ _ _ _) ?_
  refine wp_of (uf_X9_laysAso _ _ _ _ _ _ _ _) ?_
  refine wp_ifn (by decide) ?_
  refine wp_ifn (by decide) ?_
  refine wp_ifn (by decide) ?_
  refine wp_ifn (by decide) ?_
  refine wp_in2 ?_
  refine wp_of (uf_X9_begins _ _ _ _) ?_
  refine wp_ifn (by decide) ?_
  refine wp_ck (i_inb (by decide) (by rw [show (((0 : Int32) + (1 : Int32))).toInt = 1 from by decide]; (try simp only [is_len]); omega)) ?_
  refine wp_nm (fun y3 h3 => ?_)
  subst h3
  refine wp_of (uf_X9_begins_19 _ _ _) ?_
  refine wp_nm (fun y4 h4 => ?_)
  subst h4
  refine wp_so2 ?_
  show wp _ _
  refine wp_in3 ?_
  refine wp_of (uf_X9_foldsAs _ _ _ _ _ _ _) ?_
  refine wp_of (uf_X9_foldsAso _ _ _ _ _ _ _) ?_
  refine wp_ifn (by decide) ?_
  refine wp_ifn (by decide) ?_
  refine wp_in2 ?_
  refine wp_of (uf_X9_begins _ _ _ _) ?_
  refine wp_ifn (by decide) ?_
  refine wp_ck (i_inb (by decide) (by rw [show ((((0 : Int32) + (1 : Int32)) + (1 : Int32))).toInt = 2 from by decide]; (try simp only [is_len]); omega)) ?_
  refine wp_nm (fun y5 h5 => ?_)
  subst h5
  refine wp_of (uf_X9_begins_19 _ _ _) ?_
  refine wp_nm (fun y6 h6 => ?_)
  subst h6
  refine wp_so2 ?_
  show wp _ _
  refine wp_so3 ?_
  show wp _ _
  refine wp_so3 ?_
  show wp _ _
  refine wp_in3 ?_
  refine wp_of (uf_X9_wearsAs _ _ _ _ _ _ _ _) ?_
  refine wp_of (uf_X9_wearsAso _ _ _ _ _ _ _ _) ?_
  refine wp_ifn (by decide) ?_
  refine wp_ifn (by decide) ?_
  refine wp_ifp (by decide) ?_
  refine wp_of (uf_X9_wearsAs_36 _ _ _ _ _ _ _) ?_
  refine wp_in2 ?_
  refine wp_of (uf_X9_begins _ _ _ _) ?_
  refine wp_ifn (by decide) ?_
  refine wp_ck (i_inb (by decide) (by rw [show (((((0 : Int32) + (1 : Int32)) + (1 : Int32)) + (1 : Int32))).toInt = 3 from by decide]; (try simp only [is_len]); omega)) ?_
  refine wp_nm (fun y7 h7 => ?_)
  subst h7
  refine wp_of (uf_X9_begins_19 _ _ _) ?_
  refine wp_nm (fun y8 h8 => ?_)
  subst h8
  refine wp_so2 ?_
  show wp _ _
  refine wp_in3 ?_
  refine wp_of (uf_X9_wearsAs _ _ _ _ _ _ _ _) ?_
  refine wp_of (uf_X9_wearsAso _ _ _ _ _ _ _ _) ?_
  refine wp_ifn (by decide) ?_
  refine wp_ifn (by decide) ?_
  refine wp_ifn (by decide) ?_
  refine wp_ifn (by decide) ?_
  refine wp_in2 ?_
  refine wp_of (uf_X9_begins _ _ _ _) ?_
  refine wp_ifn (by decide) ?_
  refine wp_ck (i_inb (by decide) (by rw [show ((((((0 : Int32) + (1 : Int32)) + (1 : Int32)) + (1 : Int32)) + (1 : Int32))).toInt = 4 from by decide]; (try simp only [is_len]); omega)) ?_
  refine wp_nm (fun y9 h9 => ?_)
  subst h9
  refine wp_of (uf_X9_begins_19 _ _ _) ?_
  refine wp_nm (fun y10 h10 => ?_)
  subst h10
  refine wp_so2 ?_
  show wp _ _
  refine wp_so3 ?_
  show wp _ _
  refine wp_in3 ?_
  refine wp_of (uf_X9_foldsAs _ _ _ _ _ _ _) ?_
  refine wp_of (uf_X9_foldsAso _ _ _ _ _ _ _) ?_
  refine wp_ifn (by decide) ?_
  refine wp_ifn (by decide) ?_
  refine wp_in2 ?_
  refine wp_of (uf_X9_begins _ _ _ _) ?_
  refine wp_ifn (by decide) ?_
  refine wp_ck (i_inb (by decide) (by rw [show (((((((0 : Int32) + (1 : Int32)) + (1 : Int32)) + (1 : Int32)) + (1 : Int32)) + (1 : Int32))).toInt = 5 from by decide]; (try simp only [is_len]); omega)) ?_
  refine wp_nm (fun y11 h11 => ?_)
  subst h11
  refine wp_of (uf_X9_begins_19 _ _ _) ?_
  refine wp_nm (fun y12 h12 => ?_)
  subst h12
  refine wp_so2 ?_
  show wp _ _
  refine wp_so3 ?_
  show wp _ _
  refine wp_so3 ?_
  show wp _ _
  exact wp_so3 ⟨rfl, rfl, rfl⟩

set_option maxRecDepth 20000 in
theorem ac9_5_0 (x b : Int32) (tr : List Int32) (hl : tr.length = 24) : wp (fX9_foldsAs 700 4 (5 : Int32) x (0 : Int32) b tr) (cu3 (fun r0 r1 r2 => r0 = (x + b) ∧ r1 = ((0 : Int32) + (1 : Int32)) ∧ r2 = (mm_is tr (0 : Int32) (1 : Int32)))) := by
  refine wp_of (uf_X9_foldsAs _ _ _ _ _ _ _) ?_
  refine wp_of (uf_X9_foldsAso _ _ _ _ _ _ _) ?_
  refine wp_ifn (by decide) ?_
  refine wp_ifn (by decide) ?_
  refine wp_in2 ?_
  refine wp_of (uf_X9_begins _ _ _ _) ?_
  refine wp_ifn (by decide) ?_
  refine wp_ck (i_inb (by decide) (by rw [show ((0 : Int32)).toInt = 0 from by decide]; (try simp only [is_len]); omega)) ?_
  refine wp_nm (fun y1 h1 => ?_)
  subst h1
  refine wp_of (uf_X9_begins_19 _ _ _) ?_
  refine wp_nm (fun y2 h2 => ?_)
  subst h2
  refine wp_so2 ?_
  show wp _ _
  exact wp_so3 ⟨rfl, rfl, rfl⟩

set_option maxRecDepth 20000 in
theorem ac9_5_1 (x b : Int32) (tr : List Int32) (hl : tr.length = 24) : wp (fX9_laysAs 700 5 (5 : Int32) x (0 : Int32) (5 : Int32) b tr) (cu3 (fun r0 r1 r2 => r0 = (-(((x + (1 : Int32)) + b) * (2 : Int32))) ∧ r1 = (((((0 : Int32) + (1 : Int32)) + (1 : Int32)) + (1 : Int32)) + (1 : Int32)) ∧ r2 = (mm_is (mm_is (mm_is (mm_is tr (0 : Int32) (41 : Int32)) ((0 : Int32) + (1 : Int32)) (30 : Int32)) (((0 : Int32) + (1 : Int32)) + (1 : Int32)) (10 : Int32)) ((((0 : Int32) + (1 : Int32)) + (1 : Int32)) + (1 : Int32)) (1 : Int32)))) := by
  refine wp_of (uf_X9_laysAs _ _ _ _ _ _ _ _) ?_
  refine wp_of (uf_X9_laysAso _ _ _ _ _ _ _ _) ?_
  refine wp_ifn (by decide) ?_
  refine wp_ifp (by decide) ?_
  refine wp_of (uf_X9_laysAs_10 _ _ _ _ _ _ _) ?_
  refine wp_in2 ?_
  refine wp_of (uf_X9_begins _ _ _ _) ?_
  refine wp_ifn (by decide) ?_
  refine wp_ck (i_inb (by decide) (by rw [show ((0 : Int32)).toInt = 0 from by decide]; (try simp only [is_len]); omega)) ?_
  refine wp_nm (fun y1 h1 => ?_)
  subst h1
  refine wp_of (uf_X9_begins_19 _ _ _) ?_
  refine wp_nm (fun y2 h2 => ?_)
  subst h2
  refine wp_so2 ?_
  show wp _ _
  refine wp_in3 ?_
  refine wp_of (uf_X9_laysAs _ _ _ _ _ _ _ _) ?_
  refine wp_of (uf_X9_laysAso _ _ _ _ _ _ _ _) ?_
  refine wp_ifn (by decide) ?_
  refine wp_ifn (by decide) ?_
  refine wp_ifp (by decide) ?_
  refine wp_in2 ?_
  refine wp_of (uf_X9_begins _ _ _ _) ?_
  refine wp_ifn (by decide) ?_
  refine wp_ck (i_inb (by decide) (by rw [show (((0 : Int32) + (1 : Int32))).toInt = 1 from by decide]; (try simp only [is_len]); omega)) ?_
  refine wp_nm (fun y3 h3 => ?_)
  subst h3
  refine wp_of (uf_X9_begins_19 _ _ _) ?_
  refine wp_nm (fun y4 h4 => ?_)
  subst h4
  refine wp_so2 ?_
  show wp _ _
  refine wp_in3 ?_
  refine wp_of (uf_X9_laysAs _ _ _ _ _ _ _ _) ?_
  refine wp_of (uf_X9_laysAso _ _ _ _ _ _ _ _) ?_
  refine wp_ifn (by decide) ?_
  refine wp_ifn (by decide) ?_
  refine wp_ifn (by decide) ?_
  refine wp_ifn (by decide) ?_
  refine wp_in2 ?_
  refine wp_of (uf_X9_begins _ _ _ _) ?_
  refine wp_ifn (by decide) ?_
  refine wp_ck (i_inb (by decide) (by rw [show ((((0 : Int32) + (1 : Int32)) + (1 : Int32))).toInt = 2 from by decide]; (try simp only [is_len]); omega)) ?_
  refine wp_nm (fun y5 h5 => ?_)
  subst h5
  refine wp_of (uf_X9_begins_19 _ _ _) ?_
  refine wp_nm (fun y6 h6 => ?_)
  subst h6
  refine wp_so2 ?_
  show wp _ _
  refine wp_in3 ?_
  refine wp_of (uf_X9_foldsAs _ _ _ _ _ _ _) ?_
  refine wp_of (uf_X9_foldsAso _ _ _ _ _ _ _) ?_
  refine wp_ifn (by decide) ?_
  refine wp_ifn (by decide) ?_
  refine wp_in2 ?_
  refine wp_of (uf_X9_begins _ _ _ _) ?_
  refine wp_ifn (by decide) ?_
  refine wp_ck (i_inb (by decide) (by rw [show (((((0 : Int32) + (1 : Int32)) + (1 : Int32)) + (1 : Int32))).toInt = 3 from by decide]; (try simp only [is_len]); omega)) ?_
  refine wp_nm (fun y7 h7 => ?_)
  subst h7
  refine wp_of (uf_X9_begins_19 _ _ _) ?_
  refine wp_nm (fun y8 h8 => ?_)
  subst h8
  refine wp_so2 ?_
  show wp _ _
  refine wp_so3 ?_
  show wp _ _
  refine wp_so3 ?_
  show wp _ _
  refine wp_so3 ?_
  show wp _ _
  exact wp_so3 ⟨rfl, rfl, rfl⟩

set_option maxRecDepth 20000 in
theorem ac9_5_2 (x b : Int32) (tr : List Int32) (hl : tr.length = 24) : wp (fX9_wearsAs 700 4 (5 : Int32) x (0 : Int32) (5 : Int32) b tr) (cu3 (fun r0 r1 r2 => r0 = ((x ^^^ b) * (3 : Int32)) ∧ r1 = (((0 : Int32) + (1 : Int32)) + (1 : Int32)) ∧ r2 = (mm_is (mm_is tr (0 : Int32) (40 : Int32)) ((0 : Int32) + (1 : Int32)) (11 : Int32)))) := by
  refine wp_of (uf_X9_wearsAs _ _ _ _ _ _ _ _) ?_
  refine wp_of (uf_X9_wearsAso _ _ _ _ _ _ _ _) ?_
  refine wp_ifn (by decide) ?_
  refine wp_ifp (by decide) ?_
  refine wp_of (uf_X9_wearsAs_10 _ _ _ _ _ _ _) ?_
  refine wp_in2 ?_
  refine wp_of (uf_X9_begins _ _ _ _) ?_
  refine wp_ifn (by decide) ?_
  refine wp_ck (i_inb (by decide) (by rw [show ((0 : Int32)).toInt = 0 from by decide]; (try simp only [is_len]); omega)) ?_
  refine wp_nm (fun y1 h1 => ?_)
  subst h1
  refine wp_of (uf_X9_begins_19 _ _ _) ?_
  refine wp_nm (fun y2 h2 => ?_)
  subst h2
  refine wp_so2 ?_
  show wp _ _
  refine wp_in3 ?_
  refine wp_of (uf_X9_wearsAs _ _ _ _ _ _ _ _) ?_
  refine wp_of (uf_X9_wearsAso _ _ _ _ _ _ _ _) ?_
  refine wp_ifn (by decide) ?_
  refine wp_ifn (by decide) ?_
  refine wp_ifn (by decide) ?_
  refine wp_ifn (by decide) ?_
  refine wp_in2 ?_
  refine wp_of (uf_X9_begins _ _ _ _) ?_
  refine wp_ifn (by decide) ?_
  refine wp_ck (i_inb (by decide) (by rw [show (((0 : Int32) + (1 : Int32))).toInt = 1 from by decide]; (try simp only [is_len]); omega)) ?_
  refine wp_nm (fun y3 h3 => ?_)
  subst h3
  refine wp_of (uf_X9_begins_19 _ _ _) ?_
  refine wp_nm (fun y4 h4 => ?_)
  subst h4
  refine wp_so2 ?_
  show wp _ _
  refine wp_so3 ?_
  show wp _ _
  exact wp_so3 ⟨rfl, rfl, rfl⟩

set_option maxRecDepth 20000 in
theorem ac9_5_3 (x b : Int32) (tr : List Int32) (hl : tr.length = 24) : wp (fX9_tellsAs 700 4 (5 : Int32) x (0 : Int32) (5 : Int32) b tr) (cu3 (fun r0 r1 r2 => r0 = (((-(((x + (1 : Int32)) + b) * (2 : Int32))) - (((1 : Int32) ^^^ b) * (3 : Int32))) ^^^ (5 : Int32)) ∧ r1 = (((((((((0 : Int32) + (1 : Int32)) + (1 : Int32)) + (1 : Int32)) + (1 : Int32)) + (1 : Int32)) + (1 : Int32)) + (1 : Int32)) + (1 : Int32)) ∧ r2 = (mm_is (mm_is (mm_is (mm_is (mm_is (mm_is (mm_is (mm_is tr (0 : Int32) (60 : Int32)) ((0 : Int32) + (1 : Int32)) (2 : Int32)) (((0 : Int32) + (1 : Int32)) + (1 : Int32)) (41 : Int32)) ((((0 : Int32) + (1 : Int32)) + (1 : Int32)) + (1 : Int32)) (30 : Int32)) (((((0 : Int32) + (1 : Int32)) + (1 : Int32)) + (1 : Int32)) + (1 : Int32)) (10 : Int32)) ((((((0 : Int32) + (1 : Int32)) + (1 : Int32)) + (1 : Int32)) + (1 : Int32)) + (1 : Int32)) (1 : Int32)) (((((((0 : Int32) + (1 : Int32)) + (1 : Int32)) + (1 : Int32)) + (1 : Int32)) + (1 : Int32)) + (1 : Int32)) (40 : Int32)) ((((((((0 : Int32) + (1 : Int32)) + (1 : Int32)) + (1 : Int32)) + (1 : Int32)) + (1 : Int32)) + (1 : Int32)) + (1 : Int32)) (11 : Int32)))) := by
  refine wp_of (uf_X9_tellsAs _ _ _ _ _ _ _ _) ?_
  refine wp_of (uf_X9_tellsAso _ _ _ _ _ _ _ _) ?_
  refine wp_ifp (by decide) ?_
  refine wp_in2 ?_
  refine wp_of (uf_X9_begins _ _ _ _) ?_
  refine wp_ifn (by decide) ?_
  refine wp_ck (i_inb (by decide) (by rw [show ((0 : Int32)).toInt = 0 from by decide]; (try simp only [is_len]); omega)) ?_
  refine wp_nm (fun y1 h1 => ?_)
  subst h1
  refine wp_of (uf_X9_begins_19 _ _ _) ?_
  refine wp_nm (fun y2 h2 => ?_)
  subst h2
  refine wp_so2 ?_
  show wp _ _
  refine wp_in3 ?_
  refine wp_of (uf_X9_tellsAs _ _ _ _ _ _ _ _) ?_
  refine wp_of (uf_X9_tellsAso _ _ _ _ _ _ _ _) ?_
  refine wp_ifn (by decide) ?_
  refine wp_ifn (by decide) ?_
  refine wp_in2 ?_
  refine wp_of (uf_X9_begins _ _ _ _) ?_
  refine wp_ifn (by decide) ?_
  refine wp_ck (i_inb (by decide) (by rw [show (((0 : Int32) + (1 : Int32))).toInt = 1 from by decide]; (try simp only [is_len]); omega)) ?_
  refine wp_nm (fun y3 h3 => ?_)
  subst h3
  refine wp_of (uf_X9_begins_19 _ _ _) ?_
  refine wp_nm (fun y4 h4 => ?_)
  subst h4
  refine wp_so2 ?_
  show wp _ _
  refine wp_in3 ?_
  refine wp_of (uf_X9_laysAs _ _ _ _ _ _ _ _) ?_
  refine wp_of (uf_X9_laysAso _ _ _ _ _ _ _ _) ?_
  refine wp_ifn (by decide) ?_
  refine wp_ifp (by decide) ?_
  refine wp_of (uf_X9_laysAs_10 _ _ _ _ _ _ _) ?_
  refine wp_in2 ?_
  refine wp_of (uf_X9_begins _ _ _ _) ?_
  refine wp_ifn (by decide) ?_
  refine wp_ck (i_inb (by decide) (by rw [show ((((0 : Int32) + (1 : Int32)) + (1 : Int32))).toInt = 2 from by decide]; (try simp only [is_len]); omega)) ?_
  refine wp_nm (fun y5 h5 => ?_)
  subst h5
  refine wp_of (uf_X9_begins_19 _ _ _) ?_
  refine wp_nm (fun y6 h6 => ?_)
  subst h6
  refine wp_so2 ?_
  show wp _ _
  refine wp_in3 ?_
  refine wp_of (uf_X9_laysAs _ _ _ _ _ _ _ _) ?_
  refine wp_of (uf_X9_laysAso _ _ _ _ _ _ _ _) ?_
  refine wp_ifn (by decide) ?_
  refine wp_ifn (by decide) ?_
  refine wp_ifp (by decide) ?_
  refine wp_in2 ?_
  refine wp_of (uf_X9_begins _ _ _ _) ?_
  refine wp_ifn (by decide) ?_
  refine wp_ck (i_inb (by decide) (by rw [show (((((0 : Int32) + (1 : Int32)) + (1 : Int32)) + (1 : Int32))).toInt = 3 from by decide]; (try simp only [is_len]); omega)) ?_
  refine wp_nm (fun y7 h7 => ?_)
  subst h7
  refine wp_of (uf_X9_begins_19 _ _ _) ?_
  refine wp_nm (fun y8 h8 => ?_)
  subst h8
  refine wp_so2 ?_
  show wp _ _
  refine wp_in3 ?_
  refine wp_of (uf_X9_laysAs _ _ _ _ _ _ _ _) ?_
  refine wp_of (uf_X9_laysAso _ _ _ _ _ _ _ _) ?_
  refine wp_ifn (by decide) ?_
  refine wp_ifn (by decide) ?_
  refine wp_ifn (by decide) ?_
  refine wp_ifn (by decide) ?_
  refine wp_in2 ?_
  refine wp_of (uf_X9_begins _ _ _ _) ?_
  refine wp_ifn (by decide) ?_
  refine wp_ck (i_inb (by decide) (by rw [show ((((((0 : Int32) + (1 : Int32)) + (1 : Int32)) + (1 : Int32)) + (1 : Int32))).toInt = 4 from by decide]; (try simp only [is_len]); omega)) ?_
  refine wp_nm (fun y9 h9 => ?_)
  subst h9
  refine wp_of (uf_X9_begins_19 _ _ _) ?_
  refine wp_nm (fun y10 h10 => ?_)
  subst h10
  refine wp_so2 ?_
  show wp _ _
  refine wp_in3 ?_
  refine wp_of (uf_X9_foldsAs _ _ _ _ _ _ _) ?_
  refine wp_of (uf_X9_foldsAso _ _ _ _ _ _ _) ?_
  refine wp_ifn (by decide) ?_
  refine wp_ifn (by decide) ?_
  refine wp_in2 ?_
  refine wp_of (uf_X9_begins _ _ _ _) ?_
  refine wp_ifn (by decide) ?_
  refine wp_ck (i_inb (by decide) (by rw [show (((((((0 : Int32) + (1 : Int32)) + (1 : Int32)) + (1 : Int32)) + (1 : Int32)) + (1 : Int32))).toInt = 5 from by decide]; (try simp only [is_len]); omega)) ?_
  refine wp_nm (fun y11 h11 => ?_)
  subst h11
  refine wp_of (uf_X9_begins_19 _ _ _) ?_
  refine wp_nm (fun y12 h12 => ?_)
  subst h12
  refine wp_so2 ?_
  show wp _ _
  refine wp_so3 ?_
  show wp _ _
  refine wp_so3 ?_
  show wp _ _
  refine wp_so3 ?_
  show wp _ _
  refine wp_so3 ?_
  show wp _ _
  refine wp_in3 ?_
  refine wp_of (uf_X9_wearsAs _ _ _ _ _ _ _ _) ?_
  refine wp_of (uf_X9_wearsAso _ _ _ _ _ _ _ _) ?_
  refine wp_ifn (by decide) ?_
  refine wp_ifp (by decide) ?_
  refine wp_of (uf_X9_wearsAs_10 _ _ _ _ _ _ _) ?_
  refine wp_in2 ?_
  refine wp_of (uf_X9_begins _ _ _ _) ?_
  refine wp_ifn (by decide) ?_
  refine wp_ck (i_inb (by decide) (by rw [show ((((((((0 : Int32) + (1 : Int32)) + (1 : Int32)) + (1 : Int32)) + (1 : Int32)) + (1 : Int32)) + (1 : Int32))).toInt = 6 from by decide]; (try simp only [is_len]); omega)) ?_
  refine wp_nm (fun y13 h13 => ?_)
  subst h13
  refine wp_of (uf_X9_begins_19 _ _ _) ?_
  refine wp_nm (fun y14 h14 => ?_)
  subst h14
  refine wp_so2 ?_
  show wp _ _
  refine wp_in3 ?_
  refine wp_of (uf_X9_wearsAs _ _ _ _ _ _ _ _) ?_
  refine wp_of (uf_X9_wearsAso _ _ _ _ _ _ _ _) ?_
  refine wp_ifn (by decide) ?_
  refine wp_ifn (by decide) ?_
  refine wp_ifn (by decide) ?_
  refine wp_ifn (by decide) ?_
  refine wp_in2 ?_
  refine wp_of (uf_X9_begins _ _ _ _) ?_
  refine wp_ifn (by decide) ?_
  refine wp_ck (i_inb (by decide) (by rw [show (((((((((0 : Int32) + (1 : Int32)) + (1 : Int32)) + (1 : Int32)) + (1 : Int32)) + (1 : Int32)) + (1 : Int32)) + (1 : Int32))).toInt = 7 from by decide]; (try simp only [is_len]); omega)) ?_
  refine wp_nm (fun y15 h15 => ?_)
  subst h15
  refine wp_of (uf_X9_begins_19 _ _ _) ?_
  refine wp_nm (fun y16 h16 => ?_)
  subst h16
  refine wp_so2 ?_
  show wp _ _
  refine wp_so3 ?_
  show wp _ _
  refine wp_so3 ?_
  show wp _ _
  refine wp_so3 ?_
  show wp _ _
  exact wp_so3 ⟨rfl, rfl, rfl⟩

set_option maxRecDepth 20000 in
theorem ac9_6_0 (x b : Int32) (tr : List Int32) (hl : tr.length = 24) : wp (fX9_foldsAs 700 4 (6 : Int32) x (0 : Int32) b tr) (cu3 (fun r0 r1 r2 => r0 = (((x + b) + (3 : Int32)) * (2 : Int32)) ∧ r1 = ((((0 : Int32) + (1 : Int32)) + (1 : Int32)) + (1 : Int32)) ∧ r2 = (mm_is (mm_is (mm_is tr (0 : Int32) (70 : Int32)) ((0 : Int32) + (1 : Int32)) (20 : Int32)) (((0 : Int32) + (1 : Int32)) + (1 : Int32)) (1 : Int32)))) := by
  refine wp_of (uf_X9_foldsAs _ _ _ _ _ _ _) ?_
  refine wp_of (uf_X9_foldsAso _ _ _ _ _ _ _) ?_
  refine wp_ifp (by decide) ?_
  refine wp_in2 ?_
  refine wp_of (uf_X9_begins _ _ _ _) ?_
  refine wp_ifn (by decide) ?_
  refine wp_ck (i_inb (by decide) (by rw [show ((0 : Int32)).toInt = 0 from by decide]; (try simp only [is_len]); omega)) ?_
  refine wp_nm (fun y1 h1 => ?_)
  subst h1
  refine wp_of (uf_X9_begins_19 _ _ _) ?_
  refine wp_nm (fun y2 h2 => ?_)
  subst h2
  refine wp_so2 ?_
  show wp _ _
  refine wp_in3 ?_
  refine wp_of (uf_X9_foldsAs _ _ _ _ _ _ _) ?_
  refine wp_of (uf_X9_foldsAso _ _ _ _ _ _ _) ?_
  refine wp_ifn (by decide) ?_
  refine wp_ifp (by decide) ?_
  refine wp_in2 ?_
  refine wp_of (uf_X9_begins _ _ _ _) ?_
  refine wp_ifn (by decide) ?_
  refine wp_ck (i_inb (by decide) (by rw [show (((0 : Int32) + (1 : Int32))).toInt = 1 from by decide]; (try simp only [is_len]); omega)) ?_
  refine wp_nm (fun y3 h3 => ?_)
  subst h3
  refine wp_of (uf_X9_begins_19 _ _ _) ?_
  refine wp_nm (fun y4 h4 => ?_)
  subst h4
  refine wp_so2 ?_
  show wp _ _
  refine wp_in3 ?_
  refine wp_of (uf_X9_foldsAs _ _ _ _ _ _ _) ?_
  refine wp_of (uf_X9_foldsAso _ _ _ _ _ _ _) ?_
  refine wp_ifn (by decide) ?_
  refine wp_ifn (by decide) ?_
  refine wp_in2 ?_
  refine wp_of (uf_X9_begins _ _ _ _) ?_
  refine wp_ifn (by decide) ?_
  refine wp_ck (i_inb (by decide) (by rw [show ((((0 : Int32) + (1 : Int32)) + (1 : Int32))).toInt = 2 from by decide]; (try simp only [is_len]); omega)) ?_
  refine wp_nm (fun y5 h5 => ?_)
  subst h5
  refine wp_of (uf_X9_begins_19 _ _ _) ?_
  refine wp_nm (fun y6 h6 => ?_)
  subst h6
  refine wp_so2 ?_
  show wp _ _
  refine wp_so3 ?_
  show wp _ _
  refine wp_so3 ?_
  show wp _ _
  exact wp_so3 ⟨rfl, rfl, rfl⟩

set_option maxRecDepth 20000 in
theorem ac9_6_1 (x b : Int32) (tr : List Int32) (hl : tr.length = 24) : wp (fX9_laysAs 700 5 (6 : Int32) x (0 : Int32) (6 : Int32) b tr) (cu3 (fun r0 r1 r2 => r0 = ((((x + b) + (3 : Int32)) * (2 : Int32)) * (2 : Int32)) ∧ r1 = (((((0 : Int32) + (1 : Int32)) + (1 : Int32)) + (1 : Int32)) + (1 : Int32)) ∧ r2 = (mm_is (mm_is (mm_is (mm_is tr (0 : Int32) (10 : Int32)) ((0 : Int32) + (1 : Int32)) (70 : Int32)) (((0 : Int32) + (1 : Int32)) + (1 : Int32)) (20 : Int32)) ((((0 : Int32) + (1 : Int32)) + (1 : Int32)) + (1 : Int32)) (1 : Int32)))) := by
  refine wp_of (uf_X9_laysAs _ _ _ _ _ _ _ _) ?_
  refine wp_of (uf_X9_laysAso _ _ _ _ _ _ _ _) ?_
  refine wp_ifn (by decide) ?_
  refine wp_ifn (by decide) ?_
  refine wp_ifn (by decide) ?_
  refine wp_ifn (by decide) ?_
  refine wp_in2 ?_
  refine wp_of (uf_X9_begins _ _ _ _) ?_
  refine wp_ifn (by decide) ?_
  refine wp_ck (i_inb (by decide) (by rw [show ((0 : Int32)).toInt = 0 from by decide]; (try simp only [is_len]); omega)) ?_
  refine wp_nm (fun y1 h1 => ?_)
  subst h1
  refine wp_of (uf_X9_begins_19 _ _ _) ?_
  refine wp_nm (fun y2 h2 => ?_)
  subst h2
  refine wp_so2 ?_
  show wp _ _
  refine wp_in3 ?_
  refine wp_of (uf_X9_foldsAs _ _ _ _ _ _ _) ?_
  refine wp_of (uf_X9_foldsAso _ _ _ _ _ _ _) ?_
  refine wp_ifp (by decide) ?_
  refine wp_in2 ?_
  refine wp_of (uf_X9_begins _ _ _ _) ?_
  refine wp_ifn (by decide) ?_
  refine wp_ck (i_inb (by decide) (by rw [show (((0 : Int32) + (1 : Int32))).toInt = 1 from by decide]; (try simp only [is_len]); omega)) ?_
  refine wp_nm (fun y3 h3 => ?_)
  subst h3
  refine wp_of (uf_X9_begins_19 _ _ _) ?_
  refine wp_nm (fun y4 h4 => ?_)
  subst h4
  refine wp_so2 ?_
  show wp _ _
  refine wp_in3 ?_
  refine wp_of (uf_X9_foldsAs _ _ _ _ _ _ _) ?_
  refine wp_of (uf_X9_foldsAso _ _ _ _ _ _ _) ?_
  refine wp_ifn (by decide) ?_
  refine wp_ifp (by decide) ?_
  refine wp_in2 ?_
  refine wp_of (uf_X9_begins _ _ _ _) ?_
  refine wp_ifn (by decide) ?_
  refine wp_ck (i_inb (by decide) (by rw [show ((((0 : Int32) + (1 : Int32)) + (1 : Int32))).toInt = 2 from by decide]; (try simp only [is_len]); omega)) ?_
  refine wp_nm (fun y5 h5 => ?_)
  subst h5
  refine wp_of (uf_X9_begins_19 _ _ _) ?_
  refine wp_nm (fun y6 h6 => ?_)
  subst h6
  refine wp_so2 ?_
  show wp _ _
  refine wp_in3 ?_
  refine wp_of (uf_X9_foldsAs _ _ _ _ _ _ _) ?_
  refine wp_of (uf_X9_foldsAso _ _ _ _ _ _ _) ?_
  refine wp_ifn (by decide) ?_
  refine wp_ifn (by decide) ?_
  refine wp_in2 ?_
  refine wp_of (uf_X9_begins _ _ _ _) ?_
  refine wp_ifn (by decide) ?_
  refine wp_ck (i_inb (by decide) (by rw [show (((((0 : Int32) + (1 : Int32)) + (1 : Int32)) + (1 : Int32))).toInt = 3 from by decide]; (try simp only [is_len]); omega)) ?_
  refine wp_nm (fun y7 h7 => ?_)
  subst h7
  refine wp_of (uf_X9_begins_19 _ _ _) ?_
  refine wp_nm (fun y8 h8 => ?_)
  subst h8
  refine wp_so2 ?_
  show wp _ _
  refine wp_so3 ?_
  show wp _ _
  refine wp_so3 ?_
  show wp _ _
  refine wp_so3 ?_
  show wp _ _
  exact wp_so3 ⟨rfl, rfl, rfl⟩

set_option maxRecDepth 20000 in
theorem ac9_6_2 (x b : Int32) (tr : List Int32) (hl : tr.length = 24) : wp (fX9_wearsAs 700 4 (6 : Int32) x (0 : Int32) (6 : Int32) b tr) (cu3 (fun r0 r1 r2 => r0 = (x ^^^ b) ∧ r1 = ((0 : Int32) + (1 : Int32)) ∧ r2 = (mm_is tr (0 : Int32) (11 : Int32)))) := by
  refine wp_of (uf_X9_wearsAs _ _ _ _ _ _ _ _) ?_
  refine wp_of (uf_X9_wearsAso _ _ _ _ _ _ _ _) ?_
  refine wp_ifn (by decide) ?_
  refine wp_ifn (by decide) ?_
  refine wp_ifn (by decide) ?_
  refine wp_ifn (by decide) ?_
  refine wp_in2 ?_
  refine wp_of (uf_X9_begins _ _ _ _) ?_
  refine wp_ifn (by decide) ?_
  refine wp_ck (i_inb (by decide) (by rw [show ((0 : Int32)).toInt = 0 from by decide]; (try simp only [is_len]); omega)) ?_
  refine wp_nm (fun y1 h1 => ?_)
  subst h1
  refine wp_of (uf_X9_begins_19 _ _ _) ?_
  refine wp_nm (fun y2 h2 => ?_)
  subst h2
  refine wp_so2 ?_
  show wp _ _
  exact wp_so3 ⟨rfl, rfl, rfl⟩

set_option maxRecDepth 20000 in
theorem ac9_6_3 (x b : Int32) (tr : List Int32) (hl : tr.length = 24) : wp (fX9_tellsAs 700 4 (6 : Int32) x (0 : Int32) (6 : Int32) b tr) (cu3 (fun r0 r1 r2 => r0 = (((((x + b) + (3 : Int32)) * (2 : Int32)) * (2 : Int32)) - ((1 : Int32) ^^^ b)) ∧ r1 = (((((((0 : Int32) + (1 : Int32)) + (1 : Int32)) + (1 : Int32)) + (1 : Int32)) + (1 : Int32)) + (1 : Int32)) ∧ r2 = (mm_is (mm_is (mm_is (mm_is (mm_is (mm_is tr (0 : Int32) (2 : Int32)) ((0 : Int32) + (1 : Int32)) (10 : Int32)) (((0 : Int32) + (1 : Int32)) + (1 : Int32)) (70 : Int32)) ((((0 : Int32) + (1 : Int32)) + (1 : Int32)) + (1 : Int32)) (20 : Int32)) (((((0 : Int32) + (1 : Int32)) + (1 : Int32)) + (1 : Int32)) + (1 : Int32)) (1 : Int32)) ((((((0 : Int32) + (1 : Int32)) + (1 : Int32)) + (1 : Int32)) + (1 : Int32)) + (1 : Int32)) (11 : Int32)))) := by
  refine wp_of (uf_X9_tellsAs _ _ _ _ _ _ _ _) ?_
  refine wp_of (uf_X9_tellsAso _ _ _ _ _ _ _ _) ?_
  refine wp_ifn (by decide) ?_
  refine wp_ifn (by decide) ?_
  refine wp_in2 ?_
  refine wp_of (uf_X9_begins _ _ _ _) ?_
  refine wp_ifn (by decide) ?_
  refine wp_ck (i_inb (by decide) (by rw [show ((0 : Int32)).toInt = 0 from by decide]; (try simp only [is_len]); omega)) ?_
  refine wp_nm (fun y1 h1 => ?_)
  subst h1
  refine wp_of (uf_X9_begins_19 _ _ _) ?_
  refine wp_nm (fun y2 h2 => ?_)
  subst h2
  refine wp_so2 ?_
  show wp _ _
  refine wp_in3 ?_
  refine wp_of (uf_X9_laysAs _ _ _ _ _ _ _ _) ?_
  refine wp_of (uf_X9_laysAso _ _ _ _ _ _ _ _) ?_
  refine wp_ifn (by decide) ?_
  refine wp_ifn (by decide) ?_
  refine wp_ifn (by decide) ?_
  refine wp_ifn (by decide) ?_
  refine wp_in2 ?_
  refine wp_of (uf_X9_begins _ _ _ _) ?_
  refine wp_ifn (by decide) ?_
  refine wp_ck (i_inb (by decide) (by rw [show (((0 : Int32) + (1 : Int32))).toInt = 1 from by decide]; (try simp only [is_len]); omega)) ?_
  refine wp_nm (fun y3 h3 => ?_)
  subst h3
  refine wp_of (uf_X9_begins_19 _ _ _) ?_
  refine wp_nm (fun y4 h4 => ?_)
  subst h4
  refine wp_so2 ?_
  show wp _ _
  refine wp_in3 ?_
  refine wp_of (uf_X9_foldsAs _ _ _ _ _ _ _) ?_
  refine wp_of (uf_X9_foldsAso _ _ _ _ _ _ _) ?_
  refine wp_ifp (by decide) ?_
  refine wp_in2 ?_
  refine wp_of (uf_X9_begins _ _ _ _) ?_
  refine wp_ifn (by decide) ?_
  refine wp_ck (i_inb (by decide) (by rw [show ((((0 : Int32) + (1 : Int32)) + (1 : Int32))).toInt = 2 from by decide]; (try simp only [is_len]); omega)) ?_
  refine wp_nm (fun y5 h5 => ?_)
  subst h5
  refine wp_of (uf_X9_begins_19 _ _ _) ?_
  refine wp_nm (fun y6 h6 => ?_)
  subst h6
  refine wp_so2 ?_
  show wp _ _
  refine wp_in3 ?_
  refine wp_of (uf_X9_foldsAs _ _ _ _ _ _ _) ?_
  refine wp_of (uf_X9_foldsAso _ _ _ _ _ _ _) ?_
  refine wp_ifn (by decide) ?_
  refine wp_ifp (by decide) ?_
  refine wp_in2 ?_
  refine wp_of (uf_X9_begins _ _ _ _) ?_
  refine wp_ifn (by decide) ?_
  refine wp_ck (i_inb (by decide) (by rw [show (((((0 : Int32) + (1 : Int32)) + (1 : Int32)) + (1 : Int32))).toInt = 3 from by decide]; (try simp only [is_len]); omega)) ?_
  refine wp_nm (fun y7 h7 => ?_)
  subst h7
  refine wp_of (uf_X9_begins_19 _ _ _) ?_
  refine wp_nm (fun y8 h8 => ?_)
  subst h8
  refine wp_so2 ?_
  show wp _ _
  refine wp_in3 ?_
  refine wp_of (uf_X9_foldsAs _ _ _ _ _ _ _) ?_
  refine wp_of (uf_X9_foldsAso _ _ _ _ _ _ _) ?_
  refine wp_ifn (by decide) ?_
  refine wp_ifn (by decide) ?_
  refine wp_in2 ?_
  refine wp_of (uf_X9_begins _ _ _ _) ?_
  refine wp_ifn (by decide) ?_
  refine wp_ck (i_inb (by decide) (by rw [show ((((((0 : Int32) + (1 : Int32)) + (1 : Int32)) + (1 : Int32)) + (1 : Int32))).toInt = 4 from by decide]; (try simp only [is_len]); omega)) ?_
  refine wp_nm (fun y9 h9 => ?_)
  subst h9
  refine wp_of (uf_X9_begins_19 _ _ _) ?_
  refine wp_nm (fun y10 h10 => ?_)
  subst h10
  refine wp_so2 ?_
  show wp _ _
  refine wp_so3 ?_
  show wp _ _
  refine wp_so3 ?_
  show wp _ _
  refine wp_so3 ?_
  show wp _ _
  refine wp_so3 ?_
  show wp _ _
  refine wp_in3 ?_
  refine wp_of (uf_X9_wearsAs _ _ _ _ _ _ _ _) ?_
  refine wp_of (uf_X9_wearsAso _ _ _ _ _ _ _ _) ?_
  refine wp_ifn (by decide) ?_
  refine wp_ifn (by decide) ?_
  refine wp_ifn (by decide) ?_
  refine wp_ifn (by decide) ?_
  refine wp_in2 ?_
  refine wp_of (uf_X9_begins _ _ _ _) ?_
  refine wp_ifn (by decide) ?_
  refine wp_ck (i_inb (by decide) (by rw [show (((((((0 : Int32) + (1 : Int32)) + (1 : Int32)) + (1 : Int32)) + (1 : Int32)) + (1 : Int32))).toInt = 5 from by decide]; (try simp only [is_len]); omega)) ?_
  refine wp_nm (fun y11 h11 => ?_)
  subst h11
  refine wp_of (uf_X9_begins_19 _ _ _) ?_
  refine wp_nm (fun y12 h12 => ?_)
  subst h12
  refine wp_so2 ?_
  show wp _ _
  refine wp_so3 ?_
  show wp _ _
  exact wp_so3 ⟨rfl, rfl, rfl⟩

set_option maxRecDepth 20000 in
theorem ac9_7_0 (x b : Int32) (tr : List Int32) (hl : tr.length = 24) : wp (fX9_foldsAs 700 4 (7 : Int32) x (0 : Int32) b tr) (cu3 (fun r0 r1 r2 => r0 = (x + b) ∧ r1 = ((0 : Int32) + (1 : Int32)) ∧ r2 = (mm_is tr (0 : Int32) (1 : Int32)))) := by
  refine wp_of (uf_X9_foldsAs _ _ _ _ _ _ _) ?_
  refine wp_of (uf_X9_foldsAso _ _ _ _ _ _ _) ?_
  refine wp_ifn (by decide) ?_
  refine wp_ifn (by decide) ?_
  refine wp_in2 ?_
  refine wp_of (uf_X9_begins _ _ _ _) ?_
  refine wp_ifn (by decide) ?_
  refine wp_ck (i_inb (by decide) (by rw [show ((0 : Int32)).toInt = 0 from by decide]; (try simp only [is_len]); omega)) ?_
  refine wp_nm (fun y1 h1 => ?_)
  subst h1
  refine wp_of (uf_X9_begins_19 _ _ _) ?_
  refine wp_nm (fun y2 h2 => ?_)
  subst h2
  refine wp_so2 ?_
  show wp _ _
  exact wp_so3 ⟨rfl, rfl, rfl⟩

set_option maxRecDepth 20000 in
theorem ac9_7_1 (x b : Int32) (tr : List Int32) (hl : tr.length = 24) : wp (fX9_laysAs 700 5 (7 : Int32) x (0 : Int32) (7 : Int32) b tr) (cu3 (fun r0 r1 r2 => r0 = (((x + b) * (2 : Int32)) + (((2 : Int32) ^^^ b) - ((2 : Int32) + b))) ∧ r1 = (((((((0 : Int32) + (1 : Int32)) + (1 : Int32)) + (1 : Int32)) + (1 : Int32)) + (1 : Int32)) + (1 : Int32)) ∧ r2 = (mm_is (mm_is (mm_is (mm_is (mm_is (mm_is tr (0 : Int32) (80 : Int32)) ((0 : Int32) + (1 : Int32)) (10 : Int32)) (((0 : Int32) + (1 : Int32)) + (1 : Int32)) (1 : Int32)) ((((0 : Int32) + (1 : Int32)) + (1 : Int32)) + (1 : Int32)) (50 : Int32)) (((((0 : Int32) + (1 : Int32)) + (1 : Int32)) + (1 : Int32)) + (1 : Int32)) (11 : Int32)) ((((((0 : Int32) + (1 : Int32)) + (1 : Int32)) + (1 : Int32)) + (1 : Int32)) + (1 : Int32)) (1 : Int32)))) := by
  refine wp_of (uf_X9_laysAs _ _ _ _ _ _ _ _) ?_
  refine wp_of (uf_X9_laysAso _ _ _ _ _ _ _ _) ?_
  refine wp_ifn (by decide) ?_
  refine wp_ifn (by decide) ?_
  refine wp_ifn (by decide) ?_
  refine wp_ifp (by decide) ?_
  refine wp_in2 ?_
  refine wp_of (uf_X9_begins _ _ _ _) ?_
  refine wp_ifn (by decide) ?_
  refine wp_ck (i_inb (by decide) (by rw [show ((0 : Int32)).toInt = 0 from by decide]; (try simp only [is_len]); omega)) ?_
  refine wp_nm (fun y1 h1 => ?_)
  subst h1
  refine wp_of (uf_X9_begins_19 _ _ _) ?_
  refine wp_nm (fun y2 h2 => ?_)
  subst h2
  refine wp_so2 ?_
  show wp _ _
  refine wp_in3 ?_
  refine wp_of (uf_X9_laysAs _ _ _ _ _ _ _ _) ?_
  refine wp_of (uf_X9_laysAso _ _ _ _ _ _ _ _) ?_
  refine wp_ifn (by decide) ?_
  refine wp_ifn (by decide) ?_
  refine wp_ifn (by decide) ?_
  refine wp_ifn (by decide) ?_
  refine wp_in2 ?_
  refine wp_of (uf_X9_begins _ _ _ _) ?_
  refine wp_ifn (by decide) ?_
  refine wp_ck (i_inb (by decide) (by rw [show (((0 : Int32) + (1 : Int32))).toInt = 1 from by decide]; (try simp only [is_len]); omega)) ?_
  refine wp_nm (fun y3 h3 => ?_)
  subst h3
  refine wp_of (uf_X9_begins_19 _ _ _) ?_
  refine wp_nm (fun y4 h4 => ?_)
  subst h4
  refine wp_so2 ?_
  show wp _ _
  refine wp_in3 ?_
  refine wp_of (uf_X9_foldsAs _ _ _ _ _ _ _) ?_
  refine wp_of (uf_X9_foldsAso _ _ _ _ _ _ _) ?_
  refine wp_ifn (by decide) ?_
  refine wp_ifn (by decide) ?_
  refine wp_in2 ?_
  refine wp_of (uf_X9_begins _ _ _ _) ?_
  refine wp_ifn (by decide) ?_
  refine wp_ck (i_inb (by decide) (by rw [show ((((0 : Int32) + (1 : Int32)) + (1 : Int32))).toInt = 2 from by decide]; (try simp only [is_len]); omega)) ?_
  refine wp_nm (fun y5 h5 => ?_)
  subst h5
  refine wp_of (uf_X9_begins_19 _ _ _) ?_
  refine wp_nm (fun y6 h6 => ?_)
  subst h6
  refine wp_so2 ?_
  show wp _ _
  refine wp_so3 ?_
  show wp _ _
  refine wp_so3 ?_
  show wp _ _
  refine wp_in3 ?_
  refine wp_of (uf_X9_wearsAs _ _ _ _ _ _ _ _) ?_
  refine wp_of (uf_X9_wearsAso _ _ _ _ _ _ _ _) ?_
  refine wp_ifn (by decide) ?_
  refine wp_ifn (by decide) ?_
  refine wp_ifn (by decide) ?_
  refine wp_ifp (by decide) ?_
  refine wp_of (uf_X9_wearsAs_36 _ _ _ _ _ _ _) ?_
  refine wp_in2 ?_
  refine wp_of (uf_X9_begins _ _ _ _) ?_
  refine wp_ifn (by decide) ?_
  refine wp_ck (i_inb (by decide) (by rw [show (((((0 : Int32) + (1 : Int32)) + (1 : Int32)) + (1 : Int32))).toInt = 3 from by decide]; (try simp only [is_len]); omega)) ?_
  refine wp_nm (fun y7 h7 => ?_)
  subst h7
  refine wp_of (uf_X9_begins_19 _ _ _) ?_
  refine wp_nm (fun y8 h8 => ?_)
  subst h8
  refine wp_so2 ?_
  show wp _ _
  refine wp_in3 ?_
  refine wp_of (uf_X9_wearsAs _ _ _ _ _ _ _ _) ?_
  refine wp_of (uf_X9_wearsAso _ _ _ _ _ _ _ _) ?_
  refine wp_ifn (by decide) ?_
  refine wp_ifn (by decide) ?_
  refine wp_ifn (by decide) ?_
  refine wp_ifn (by decide) ?_
  refine wp_in2 ?_
  refine wp_of (uf_X9_begins _ _ _ _) ?_
  refine wp_ifn (by decide) ?_
  refine wp_ck (i_inb (by decide) (by rw [show ((((((0 : Int32) + (1 : Int32)) + (1 : Int32)) + (1 : Int32)) + (1 : Int32))).toInt = 4 from by decide]; (try simp only [is_len]); omega)) ?_
  refine wp_nm (fun y9 h9 => ?_)
  subst h9
  refine wp_of (uf_X9_begins_19 _ _ _) ?_
  refine wp_nm (fun y10 h10 => ?_)
  subst h10
  refine wp_so2 ?_
  show wp _ _
  refine wp_so3 ?_
  show wp _ _
  refine wp_in3 ?_
  refine wp_of (uf_X9_foldsAs _ _ _ _ _ _ _) ?_
  refine wp_of (uf_X9_foldsAso _ _ _ _ _ _ _) ?_
  refine wp_ifn (by decide) ?_
  refine wp_ifn (by decide) ?_
  refine wp_in2 ?_
  refine wp_of (uf_X9_begins _ _ _ _) ?_
  refine wp_ifn (by decide) ?_
  refine wp_ck (i_inb (by decide) (by rw [show (((((((0 : Int32) + (1 : Int32)) + (1 : Int32)) + (1 : Int32)) + (1 : Int32)) + (1 : Int32))).toInt = 5 from by decide]; (try simp only [is_len]); omega)) ?_
  refine wp_nm (fun y11 h11 => ?_)
  subst h11
  refine wp_of (uf_X9_begins_19 _ _ _) ?_
  refine wp_nm (fun y12 h12 => ?_)
  subst h12
  refine wp_so2 ?_
  show wp _ _
  refine wp_so3 ?_
  show wp _ _
  refine wp_so3 ?_
  show wp _ _
  exact wp_so3 ⟨rfl, rfl, rfl⟩

set_option maxRecDepth 20000 in
theorem ac9_7_2 (x b : Int32) (tr : List Int32) (hl : tr.length = 24) : wp (fX9_wearsAs 700 4 (7 : Int32) x (0 : Int32) (7 : Int32) b tr) (cu3 (fun r0 r1 r2 => r0 = ((x ^^^ b) - ((2 : Int32) + b)) ∧ r1 = ((((0 : Int32) + (1 : Int32)) + (1 : Int32)) + (1 : Int32)) ∧ r2 = (mm_is (mm_is (mm_is tr (0 : Int32) (50 : Int32)) ((0 : Int32) + (1 : Int32)) (11 : Int32)) (((0 : Int32) + (1 : Int32)) + (1 : Int32)) (1 : Int32)))) := by
  refine wp_of (uf_X9_wearsAs _ _ _ _ _ _ _ _) ?_
  refine wp_of (uf_X9_wearsAso _ _ _ _ _ _ _ _) ?_
  refine wp_ifn (by decide) ?_
  refine wp_ifn (by decide) ?_
  refine wp_ifn (by decide) ?_
  refine wp_ifp (by decide) ?_
  refine wp_of (uf_X9_wearsAs_36 _ _ _ _ _ _ _) ?_
  refine wp_in2 ?_
  refine wp_of (uf_X9_begins _ _ _ _) ?_
  refine wp_ifn (by decide) ?_
  refine wp_ck (i_inb (by decide) (by rw [show ((0 : Int32)).toInt = 0 from by decide]; (try simp only [is_len]); omega)) ?_
  refine wp_nm (fun y1 h1 => ?_)
  subst h1
  refine wp_of (uf_X9_begins_19 _ _ _) ?_
  refine wp_nm (fun y2 h2 => ?_)
  subst h2
  refine wp_so2 ?_
  show wp _ _
  refine wp_in3 ?_
  refine wp_of (uf_X9_wearsAs _ _ _ _ _ _ _ _) ?_
  refine wp_of (uf_X9_wearsAso _ _ _ _ _ _ _ _) ?_
  refine wp_ifn (by decide) ?_
  refine wp_ifn (by decide) ?_
  refine wp_ifn (by decide) ?_
  refine wp_ifn (by decide) ?_
  refine wp_in2 ?_
  refine wp_of (uf_X9_begins _ _ _ _) ?_
  refine wp_ifn (by decide) ?_
  refine wp_ck (i_inb (by decide) (by rw [show (((0 : Int32) + (1 : Int32))).toInt = 1 from by decide]; (try simp only [is_len]); omega)) ?_
  refine wp_nm (fun y3 h3 => ?_)
  subst h3
  refine wp_of (uf_X9_begins_19 _ _ _) ?_
  refine wp_nm (fun y4 h4 => ?_)
  subst h4
  refine wp_so2 ?_
  show wp _ _
  refine wp_so3 ?_
  show wp _ _
  refine wp_in3 ?_
  refine wp_of (uf_X9_foldsAs _ _ _ _ _ _ _) ?_
  refine wp_of (uf_X9_foldsAso _ _ _ _ _ _ _) ?_
  refine wp_ifn (by decide) ?_
  refine wp_ifn (by decide) ?_
  refine wp_in2 ?_
  refine wp_of (uf_X9_begins _ _ _ _) ?_
  refine wp_ifn (by decide) ?_
  refine wp_ck (i_inb (by decide) (by rw [show ((((0 : Int32) + (1 : Int32)) + (1 : Int32))).toInt = 2 from by decide]; (try simp only [is_len]); omega)) ?_
  refine wp_nm (fun y5 h5 => ?_)
  subst h5
  refine wp_of (uf_X9_begins_19 _ _ _) ?_
  refine wp_nm (fun y6 h6 => ?_)
  subst h6
  refine wp_so2 ?_
  show wp _ _
  refine wp_so3 ?_
  show wp _ _
  exact wp_so3 ⟨rfl, rfl, rfl⟩

set_option maxRecDepth 20000 in
theorem ac9_7_3 (x b : Int32) (tr : List Int32) (hl : tr.length = 24) : wp (fX9_tellsAs 700 4 (7 : Int32) x (0 : Int32) (7 : Int32) b tr) (cu3 (fun r0 r1 r2 => r0 = (((((x + b) * (2 : Int32)) + (((2 : Int32) ^^^ b) - ((2 : Int32) + b))) - (((1 : Int32) ^^^ b) - ((2 : Int32) + b))) - (1 : Int32)) ∧ r1 = ((((((((((((0 : Int32) + (1 : Int32)) + (1 : Int32)) + (1 : Int32)) + (1 : Int32)) + (1 : Int32)) + (1 : Int32)) + (1 : Int32)) + (1 : Int32)) + (1 : Int32)) + (1 : Int32)) + (1 : Int32)) ∧ r2 = (mm_is (mm_is (mm_is (mm_is (mm_is (mm_is (mm_is (mm_is (mm_is (mm_is (mm_is tr (0 : Int32) (81 : Int32)) ((0 : Int32) + (1 : Int32)) (2 : Int32)) (((0 : Int32) + (1 : Int32)) + (1 : Int32)) (80 : Int32)) ((((0 : Int32) + (1 : Int32)) + (1 : Int32)) + (1 : Int32)) (10 : Int32)) (((((0 : Int32) + (1 : Int32)) + (1 : Int32)) + (1 : Int32)) + (1 : Int32)) (1 : Int32)) ((((((0 : Int32) + (1 : Int32)) + (1 : Int32)) + (1 : Int32)) + (1 : Int32)) + (1 : Int32)) (50 : Int32)) (((((((0 : Int32) + (1 : Int32)) + (1 : Int32)) + (1 : Int32)) + (1 : Int32)) + (1 : Int32)) + (1 : Int32)) (11 : Int32)) ((((((((0 : Int32) + (1 : Int32)) + (1 : Int32)) + (1 : Int32)) + (1 : Int32)) + (1 : Int32)) + (1 : Int32)) + (1 : Int32)) (1 : Int32)) (((((((((0 : Int32) + (1 : Int32)) + (1 : Int32)) + (1 : Int32)) + (1 : Int32)) + (1 : Int32)) + (1 : Int32)) + (1 : Int32)) + (1 : Int32)) (50 : Int32)) ((((((((((0 : Int32) + (1 : Int32)) + (1 : Int32)) + (1 : Int32)) + (1 : Int32)) + (1 : Int32)) + (1 : Int32)) + (1 : Int32)) + (1 : Int32)) + (1 : Int32)) (11 : Int32)) (((((((((((0 : Int32) + (1 : Int32)) + (1 : Int32)) + (1 : Int32)) + (1 : Int32)) + (1 : Int32)) + (1 : Int32)) + (1 : Int32)) + (1 : Int32)) + (1 : Int32)) + (1 : Int32)) (1 : Int32)))) := by
  refine wp_of (uf_X9_tellsAs _ _ _ _ _ _ _ _) ?_
  refine wp_of (uf_X9_tellsAso _ _ _ _ _ _ _ _) ?_
  refine wp_ifn (by decide) ?_
  refine wp_ifp (by decide) ?_
  refine wp_in2 ?_
  refine wp_of (uf_X9_begins _ _ _ _) ?_
  refine wp_ifn (by decide) ?_
  refine wp_ck (i_inb (by decide) (by rw [show ((0 : Int32)).toInt = 0 from by decide]; (try simp only [is_len]); omega)) ?_
  refine wp_nm (fun y1 h1 => ?_)
  subst h1
  refine wp_of (uf_X9_begins_19 _ _ _) ?_
  refine wp_nm (fun y2 h2 => ?_)
  subst h2
  refine wp_so2 ?_
  show wp _ _
  refine wp_in3 ?_
  refine wp_of (uf_X9_tellsAs _ _ _ _ _ _ _ _) ?_
  refine wp_of (uf_X9_tellsAso _ _ _ _ _ _ _ _) ?_
  refine wp_ifn (by decide) ?_
  refine wp_ifn (by decide) ?_
  refine wp_in2 ?_
  refine wp_of (uf_X9_begins _ _ _ _) ?_
  refine wp_ifn (by decide) ?_
  refine wp_ck (i_inb (by decide) (by rw [show (((0 : Int32) + (1 : Int32))).toInt = 1 from by decide]; (try simp only [is_len]); omega)) ?_
  refine wp_nm (fun y3 h3 => ?_)
  subst h3
  refine wp_of (uf_X9_begins_19 _ _ _) ?_
  refine wp_nm (fun y4 h4 => ?_)
  subst h4
  refine wp_so2 ?_
  show wp _ _
  refine wp_in3 ?_
  refine wp_of (uf_X9_laysAs _ _ _ _ _ _ _ _) ?_
  refine wp_of (uf_X9_laysAso _ _ _ _ _ _ _ _) ?_
  refine wp_ifn (by decide) ?_
  refine wp_ifn (by decide) ?_
  refine wp_ifn (by decide) ?_
  refine wp_ifp (by decide) ?_
  refine wp_in2 ?_
  refine wp_of (uf_X9_begins _ _ _ _) ?_
  refine wp_ifn (by decide) ?_
  refine wp_ck (i_inb (by decide) (by rw [show ((((0 : Int32) + (1 : Int32)) + (1 : Int32))).toInt = 2 from by decide]; (try simp only [is_len]); omega)) ?_
  refine wp_nm (fun y5 h5 => ?_)
  subst h5
  refine wp_of (uf_X9_begins_19 _ _ _) ?_
  refine wp_nm (fun y6 h6 => ?_)
  subst h6
  refine wp_so2 ?_
  show wp _ _
  refine wp_in3 ?_
  refine wp_of (uf_X9_laysAs _ _ _ _ _ _ _ _) ?_
  refine wp_of (uf_X9_laysAso _ _ _ _ _ _ _ _) ?_
  refine wp_ifn (by decide) ?_
  refine wp_ifn (by decide) ?_
  refine wp_ifn (by decide) ?_
  refine wp_ifn (by decide) ?_
  refine wp_in2 ?_
  refine wp_of (uf_X9_begins _ _ _ _) ?_
  refine wp_ifn (by decide) ?_
  refine wp_ck (i_inb (by decide) (by rw [show (((((0 : Int32) + (1 : Int32)) + (1 : Int32)) + (1 : Int32))).toInt = 3 from by decide]; (try simp only [is_len]); omega)) ?_
  refine wp_nm (fun y7 h7 => ?_)
  subst h7
  refine wp_of (uf_X9_begins_19 _ _ _) ?_
  refine wp_nm (fun y8 h8 => ?_)
  subst h8
  refine wp_so2 ?_
  show wp _ _
  refine wp_in3 ?_
  refine wp_of (uf_X9_foldsAs _ _ _ _ _ _ _) ?_
  refine wp_of (uf_X9_foldsAso _ _ _ _ _ _ _) ?_
  refine wp_ifn (by decide) ?_
  refine wp_ifn (by decide) ?_
  refine wp_in2 ?_
  refine wp_of (uf_X9_begins _ _ _ _) ?_
  refine wp_ifn (by decide) ?_
  refine wp_ck (i_inb (by decide) (by rw [show ((((((0 : Int32) + (1 : Int32)) + (1 : Int32)) + (1 : Int32)) + (1 : Int32))).toInt = 4 from by decide]; (try simp only [is_len]); omega)) ?_
  refine wp_nm (fun y9 h9 => ?_)
  subst h9
  refine wp_of (uf_X9_begins_19 _ _ _) ?_
  refine wp_nm (fun y10 h10 => ?_)
  subst h10
  refine wp_so2 ?_
  show wp _ _
  refine wp_so3 ?_
  show wp _ _
  refine wp_so3 ?_
  show wp _ _
  refine wp_in3 ?_
  refine wp_of (uf_X9_wearsAs _ _ _ _ _ _ _ _) ?_
  refine wp_of (uf_X9_wearsAso _ _ _ _ _ _ _ _) ?_
  refine wp_ifn (by decide) ?_
  refine wp_ifn (by decide) ?_
  refine wp_ifn (by decide) ?_
  refine wp_ifp (by decide) ?_
  refine wp_of (uf_X9_wearsAs_36 _ _ _ _ _ _ _) ?_
  refine wp_in2 ?_
  refine wp_of (uf_X9_begins _ _ _ _) ?_
  refine wp_ifn (by decide) ?_
  refine wp_ck (i_inb (by decide) (by rw [show (((((((0 : Int32) + (1 : Int32)) + (1 : Int32)) + (1 : Int32)) + (1 : Int32)) + (1 : Int32))).toInt = 5 from by decide]; (try simp only [is_len]); omega)) ?_
  refine wp_nm (fun y11 h11 => ?_)
  subst h11
  refine wp_of (uf_X9_begins_19 _ _ _) ?_
  refine wp_nm (fun y12 h12 => ?_)
  subst h12
  refine wp_so2 ?_
  show wp _ _
  refine wp_in3 ?_
  refine wp_of (uf_X9_wearsAs _ _ _ _ _ _ _ _) ?_
  refine wp_of (uf_X9_wearsAso _ _ _ _ _ _ _ _) ?_
  refine wp_ifn (by decide) ?_
  refine wp_ifn (by decide) ?_
  refine wp_ifn (by decide) ?_
  refine wp_ifn (by decide) ?_
  refine wp_in2 ?_
  refine wp_of (uf_X9_begins _ _ _ _) ?_
  refine wp_ifn (by decide) ?_
  refine wp_ck (i_inb (by decide) (by rw [show ((((((((0 : Int32) + (1 : Int32)) + (1 : Int32)) + (1 : Int32)) + (1 : Int32)) + (1 : Int32)) + (1 : Int32))).toInt = 6 from by decide]; (try simp only [is_len]); omega)) ?_
  refine wp_nm (fun y13 h13 => ?_)
  subst h13
  refine wp_of (uf_X9_begins_19 _ _ _) ?_
  refine wp_nm (fun y14 h14 => ?_)
  subst h14
  refine wp_so2 ?_
  show wp _ _
  refine wp_so3 ?_
  show wp _ _
  refine wp_in3 ?_
  refine wp_of (uf_X9_foldsAs _ _ _ _ _ _ _) ?_
  refine wp_of (uf_X9_foldsAso _ _ _ _ _ _ _) ?_
  refine wp_ifn (by decide) ?_
  refine wp_ifn (by decide) ?_
  refine wp_in2 ?_
  refine wp_of (uf_X9_begins _ _ _ _) ?_
  refine wp_ifn (by decide) ?_
  refine wp_ck (i_inb (by decide) (by rw [show (((((((((0 : Int32) + (1 : Int32)) + (1 : Int32)) + (1 : Int32)) + (1 : Int32)) + (1 : Int32)) + (1 : Int32)) + (1 : Int32))).toInt = 7 from by decide]; (try simp only [is_len]); omega)) ?_
  refine wp_nm (fun y15 h15 => ?_)
  subst h15
  refine wp_of (uf_X9_begins_19 _ _ _) ?_
  refine wp_nm (fun y16 h16 => ?_)
  subst h16
  refine wp_so2 ?_
  show wp _ _
  refine wp_so3 ?_
  show wp _ _
  refine wp_so3 ?_
  show wp _ _
  refine wp_so3 ?_
  show wp _ _
  refine wp_in3 ?_
  refine wp_of (uf_X9_wearsAs _ _ _ _ _ _ _ _) ?_
  refine wp_of (uf_X9_wearsAso _ _ _ _ _ _ _ _) ?_
  refine wp_ifn (by decide) ?_
  refine wp_ifn (by decide) ?_
  refine wp_ifn (by decide) ?_
  refine wp_ifp (by decide) ?_
  refine wp_of (uf_X9_wearsAs_36 _ _ _ _ _ _ _) ?_
  refine wp_in2 ?_
  refine wp_of (uf_X9_begins _ _ _ _) ?_
  refine wp_ifn (by decide) ?_
  refine wp_ck (i_inb (by decide) (by rw [show ((((((((((0 : Int32) + (1 : Int32)) + (1 : Int32)) + (1 : Int32)) + (1 : Int32)) + (1 : Int32)) + (1 : Int32)) + (1 : Int32)) + (1 : Int32))).toInt = 8 from by decide]; (try simp only [is_len]); omega)) ?_
  refine wp_nm (fun y17 h17 => ?_)
  subst h17
  refine wp_of (uf_X9_begins_19 _ _ _) ?_
  refine wp_nm (fun y18 h18 => ?_)
  subst h18
  refine wp_so2 ?_
  show wp _ _
  refine wp_in3 ?_
  refine wp_of (uf_X9_wearsAs _ _ _ _ _ _ _ _) ?_
  refine wp_of (uf_X9_wearsAso _ _ _ _ _ _ _ _) ?_
  refine wp_ifn (by decide) ?_
  refine wp_ifn (by decide) ?_
  refine wp_ifn (by decide) ?_
  refine wp_ifn (by decide) ?_
  refine wp_in2 ?_
  refine wp_of (uf_X9_begins _ _ _ _) ?_
  refine wp_ifn (by decide) ?_
  refine wp_ck (i_inb (by decide) (by rw [show (((((((((((0 : Int32) + (1 : Int32)) + (1 : Int32)) + (1 : Int32)) + (1 : Int32)) + (1 : Int32)) + (1 : Int32)) + (1 : Int32)) + (1 : Int32)) + (1 : Int32))).toInt = 9 from by decide]; (try simp only [is_len]); omega)) ?_
  refine wp_nm (fun y19 h19 => ?_)
  subst h19
  refine wp_of (uf_X9_begins_19 _ _ _) ?_
  refine wp_nm (fun y20 h20 => ?_)
  subst h20
  refine wp_so2 ?_
  show wp _ _
  refine wp_so3 ?_
  show wp _ _
  refine wp_in3 ?_
  refine wp_of (uf_X9_foldsAs _ _ _ _ _ _ _) ?_
  refine wp_of (uf_X9_foldsAso _ _ _ _ _ _ _) ?_
  refine wp_ifn (by decide) ?_
  refine wp_ifn (by decide) ?_
  refine wp_in2 ?_
  refine wp_of (uf_X9_begins _ _ _ _) ?_
  refine wp_ifn (by decide) ?_
  refine wp_ck (i_inb (by decide) (by rw [show ((((((((((((0 : Int32) + (1 : Int32)) + (1 : Int32)) + (1 : Int32)) + (1 : Int32)) + (1 : Int32)) + (1 : Int32)) + (1 : Int32)) + (1 : Int32)) + (1 : Int32)) + (1 : Int32))).toInt = 10 from by decide]; (try simp only [is_len]); omega)) ?_
  refine wp_nm (fun y21 h21 => ?_)
  subst h21
  refine wp_of (uf_X9_begins_19 _ _ _) ?_
  refine wp_nm (fun y22 h22 => ?_)
  subst h22
  refine wp_so2 ?_
  show wp _ _
  refine wp_so3 ?_
  show wp _ _
  refine wp_so3 ?_
  show wp _ _
  refine wp_so3 ?_
  show wp _ _
  exact wp_so3 ⟨rfl, rfl, rfl⟩
