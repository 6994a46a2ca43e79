section
/-! safe -/

theorem st_b {i : Int32} (h1 : 0 ≤ i.toInt) (h2 : i.toInt ≤ 8) : 0 ≤ (mm_ig mm_START i).toInt ∧ (mm_ig mm_START i).toInt ≤ 680 := by
  have := zn_get zn_start (i := i) h1 h1 (by omega) (show i.toInt < 9 by omega)
  omega
def fnd (l : List Int32) : Prop := ∀ i j : Int32, 2 ≤ i.toInt → i.toInt ≤ 7 → j.toInt = i.toInt + 1 → 0 ≤ (mm_ig l i).toInt ∧ (mm_ig mm_START i).toInt + (mm_ig l i).toInt ≤ (mm_ig mm_START j).toInt
theorem fnd_get {l : List Int32} (h : fnd l) {i : Int32} (h1 : 2 ≤ i.toInt) (h2 : i.toInt ≤ 7) : 0 ≤ (mm_ig l i).toInt ∧ (mm_ig mm_START i).toInt + (mm_ig l i).toInt ≤ 680 := by
  have n1 : (1 : Int32).toInt = 1 := by decide
  have e : (i + (1 : Int32)).toInt = i.toInt + 1 := by rw [i_add (by omega) (by omega), n1]
  have k := h i (i + (1 : Int32)) h1 h2 e
  have z := zn_get zn_start (i := i + (1 : Int32)) (by omega) (by omega) (by omega) (by rw [e]; show i.toInt + 1 < 9; omega)
  omega
theorem fnd_set {l : List Int32} (h : fnd l) (hl : l.length = 8) {i j x : Int32} (h1 : 2 ≤ i.toInt) (h2 : i.toInt ≤ 7) (h3 : 0 ≤ x.toInt) (hj : j.toInt = i.toInt + 1) (h4 : (mm_ig mm_START i).toInt + x.toInt ≤ (mm_ig mm_START j).toInt) : fnd (mm_is l i x) := fun p q p1 p2 q1 => by
  rw [ig_is l i p x (by omega) (by omega) (by omega)]
  by_cases e : i.toInt = p.toInt
  · rw [if_pos e]
    have : i = p := Int32.toInt_inj.mp e
    subst this
    have : j = q := Int32.toInt_inj.mp (by omega)
    subst this
    exact ⟨h3, h4⟩
  · rw [if_neg e]; exact h p q p1 p2 q1

theorem uf_X7_lay_15 (N : Nat) (n : Nat) (x1 : Int32) (x3 : Int32) (x4 : Int32) (v_at : List Int32) : fX7_lay_15 N (n + 1) x1 x3 x4 v_at = 
    if x4 < 0 then
    (if x3 = 0 then
    (some (true, v_at))
    else (some (false, v_at)))
    else (mm_ck (mm_nz (10 : Int32)) (mm_nm (((mm_rem x3 (10 : Int32)) - (1 : Int32))) (fun (y_7 : Int32) =>
    if y_7 < 0 then
    (some (false, v_at))
    else (if x1 ≤ y_7 then
    (some (false, v_at))
    else (mm_ck (mm_inb y_7 v_at.length) (if (mm_ig v_at y_7) < 0 then
    (mm_ck (mm_inb y_7 v_at.length) (mm_nm (mm_is v_at y_7 x4) (fun (l_13 : List Int32) =>
    mm_ck (mm_nz (10 : Int32)) (mm_nm ((x3 / (10 : Int32))) (fun (y_15 : Int32) =>
    mm_nm (x4 + (-1 : Int32)) (fun (y_16 : Int32) =>
    fX7_lay_15 N n x1 y_15 y_16 l_13))))))
    else (some (false, v_at)))))))) := rfl

set_option maxHeartbeats 4000000 in
set_option maxRecDepth 20000 in
theorem sf_X7_lay_15 {N : Nat} (hN : 700 ≤ N)  : ∀ (n : Nat) (x1 : Int32) (x3 : Int32) (x4 : Int32) (v_at : List Int32), v_at.length = 7 → 2 ≤ x1.toInt → x1.toInt ≤ 7 → -1 ≤ x4.toInt → x4.toInt < 7 → (x4.toInt + 1).toNat < n → wp (fX7_lay_15 N n x1 x3 x4 v_at) (cu2 (fun (r : Bool) (wv_at : List Int32) => wv_at.length = 7)) := by
  intro n
  induction n with
  | zero =>
    intro x1 x3 x4 v_at h_0 h_1 h_2 h_3 h_4 hm
    exact absurd hm (by omega)
  | succ n ih =>
    intro x1 x3 x4 v_at h_0 h_1 h_2 h_3 h_4 hm
    refine wp_of (uf_X7_lay_15 _ _ _ _ _ _) ?_
    have n_2 : (0 : Int32).toInt = 0 := by decide
    refine wp_if (fun c_1 => ?_) (fun c_1 => ?_)
    ·
      have dc_1 := i_lt c_1
      refine wp_if (fun c_3 => ?_) (fun c_3 => ?_)
      ·
        have dc_3 := i_eq c_3
        exact wp_so2 h_0
      ·
        have dc_3 := i_ne c_3
        exact wp_so2 h_0
    ·
      have dc_1 := i_nlt c_1
      have n_4 : (10 : Int32).toInt = 10 := by decide
      refine wp_ck (i_nz (by omega)) ?_
      refine wp_nm (fun y_7 _ => ?_)
      refine wp_if (fun c_5 => ?_) (fun c_5 => ?_)
      ·
        have dc_5 := i_lt c_5
        exact wp_so2 h_0
      ·
        have dc_5 := i_nlt c_5
        refine wp_if (fun c_6 => ?_) (fun c_6 => ?_)
        ·
          have dc_6 := i_le c_6
          exact wp_so2 h_0
        ·
          have dc_6 := i_nle c_6
          refine wp_ck (i_inb (by omega) (by omega)) ?_
          refine wp_if (fun c_7 => ?_) (fun c_7 => ?_)
          ·
            have dc_7 := i_lt c_7
            refine wp_ck (i_inb (by omega) (by omega)) ?_
            refine wp_nm (fun l_13 h_l_13 => ?_)
            have nl_l_13 : l_13.length = 7 := by rw [h_l_13, is_len]; assumption
            refine wp_ck (i_nz (by omega)) ?_
            refine wp_nm (fun y_15 _ => ?_)
            have n_8 : (-1 : Int32).toInt = -1 := by decide
            refine wp_nm (fun y_16 h_y_16 => ?_)
            have e_9 := i_addE h_y_16.symm (by omega) (by omega)
            exact ih _ _ _ _ nl_l_13 h_1 h_2 (by omega) (by omega) (by omega)
          ·
            have dc_7 := i_nlt c_7
            exact wp_so2 h_0

theorem uf_X7_lay (N : Nat) (x1 : Int32) (x2 : Int32) (v_at : List Int32) : fX7_lay N x1 x2 v_at = mm_bd1 (fJ7_fill_53178 N (-1 : Int32) v_at) (fun (w_1 : List Int32) =>
    mm_nm ((x1 - (1 : Int32))) (fun (y_3 : Int32) =>
    fX7_lay_15 N N x1 x2 y_3 w_1)) := rfl

set_option maxHeartbeats 4000000 in
set_option maxRecDepth 20000 in
theorem sf_X7_lay {N : Nat} (hN : 700 ≤ N) {x1 : Int32} {x2 : Int32} {v_at : List Int32} (h_0 : v_at.length = 7) (h_1 : 2 ≤ x1.toInt) (h_2 : x1.toInt ≤ 7) : wp (fX7_lay N x1 x2 v_at) (cu2 (fun (r : Bool) (wv_at : List Int32) => wv_at.length = 7)) := by
  refine wp_of (uf_X7_lay _ _ _ _) ?_
  refine wp_bd1 (sf_J7_fill_53178 hN (by first | assumption | omega | decide) (by first | assumption | omega | decide)) (fun w_1 q_1 => ?_)
  have nl_w_1 : w_1.length = 7 := by omega
  have n_2 : (1 : Int32).toInt = 1 := by decide
  refine wp_nm (fun y_3 h_y_3 => ?_)
  have e_3 := i_subE h_y_3.symm (by omega) (by omega)
  exact sf_X7_lay_15 hN _ _ _ _ _ nl_w_1 h_1 h_2 (by omega) (by omega) (by omega)

theorem uf_X7_isWithin (N : Nat) (x1 : Int32) (x2 : Int32) (v_at : List Int32) : fX7_isWithin N x1 x2 v_at = mm_ck (mm_inb x1 v_at.length) (mm_ck (mm_inb (x1 + (1 : Int32)) v_at.length) (mm_nm ((mm_min (mm_ig v_at x1) (mm_ig v_at (x1 + (1 : Int32))))) (fun (y_3 : Int32) =>
    mm_ck (mm_inb x1 v_at.length) (mm_ck (mm_inb (x1 + (1 : Int32)) v_at.length) (mm_nm ((mm_max (mm_ig v_at x1) (mm_ig v_at (x1 + (1 : Int32))))) (fun (y_6 : Int32) =>
    if x2 ≤ y_3 then
    (some (false))
    else (if y_6 ≤ x2 then
    (some (false))
    else (some (true))))))))) := rfl

set_option maxHeartbeats 4000000 in
set_option maxRecDepth 20000 in
theorem sf_X7_isWithin {N : Nat} (hN : 700 ≤ N) {x1 : Int32} {x2 : Int32} {v_at : List Int32} (h_0 : v_at.length = 7) (h_1 : 0 ≤ x1.toInt) (h_2 : x1.toInt < 6) : wp (fX7_isWithin N x1 x2 v_at) (fun (r : Bool) => True) := by
  refine wp_of (uf_X7_isWithin _ _ _ _) ?_
  refine wp_ck (i_inb (by omega) (by omega)) ?_
  have n_1 : (1 : Int32).toInt = 1 := by decide
  generalize hz_z : (x1 + (1 : Int32)) = z
  have e_2 := i_addE hz_z (by omega) (by omega)
  refine wp_ck (i_inb (by omega) (by omega)) ?_
  refine wp_nm (fun y_3 _ => ?_)
  refine wp_ck (i_inb (by omega) (by omega)) ?_
  refine wp_ck (i_inb (by omega) (by omega)) ?_
  refine wp_nm (fun y_6 _ => ?_)
  refine wp_if (fun c_3 => ?_) (fun c_3 => ?_)
  ·
    have dc_3 := i_le c_3
    exact wp_so1 trivial
  ·
    have dc_3 := i_nle c_3
    refine wp_if (fun c_4 => ?_) (fun c_4 => ?_)
    ·
      have dc_4 := i_le c_4
      exact wp_so1 trivial
    ·
      have dc_4 := i_nle c_4
      exact wp_so1 trivial

theorem uf_X7_crossing (N : Nat) (x1 : Int32) (x2 : Int32) (v_at : List Int32) : fX7_crossing N x1 x2 v_at = mm_ck (mm_inb x2 v_at.length) (mm_bd1 (fX7_isWithin N x1 (mm_ig v_at x2) v_at) (fun (r_2 : Bool) =>
    mm_ck (mm_inb (x2 + (1 : Int32)) v_at.length) (mm_bd1 (fX7_isWithin N x1 (mm_ig v_at (x2 + (1 : Int32))) v_at) (fun (r_5 : Bool) =>
    if (mm_b r_2) = (mm_b r_5) then
    (some (false))
    else (some (true)))))) := rfl

set_option maxHeartbeats 4000000 in
set_option maxRecDepth 20000 in
theorem sf_X7_crossing {N : Nat} (hN : 700 ≤ N) {x1 : Int32} {x2 : Int32} {v_at : List Int32} (h_0 : v_at.length = 7) (h_1 : 0 ≤ x1.toInt) (h_2 : x1.toInt < 6) (h_3 : 0 ≤ x2.toInt) (h_4 : x2.toInt < 6) : wp (fX7_crossing N x1 x2 v_at) (fun (r : Bool) => True) := by
  refine wp_of (uf_X7_crossing _ _ _ _) ?_
  refine wp_ck (i_inb (by omega) (by omega)) ?_
  refine wp_bd1 (sf_X7_isWithin hN h_0 h_1 h_2) (fun r_2 _ => ?_)
  have n_1 : (1 : Int32).toInt = 1 := by decide
  generalize hz_z : (x2 + (1 : Int32)) = z
  have e_2 := i_addE hz_z (by omega) (by omega)
  refine wp_ck (i_inb (by omega) (by omega)) ?_
  refine wp_bd1 (sf_X7_isWithin hN h_0 h_1 h_2) (fun r_5 _ => ?_)
  generalize hz_z__4 : (mm_b r_2) = z__4
  obtain ⟨e_5, e1_5⟩ := i_bY hz_z__4
  generalize hz_z__6 : (mm_b r_5) = z__6
  obtain ⟨e_7, e1_7⟩ := i_bY hz_z__6
  refine wp_if (fun c_3 => ?_) (fun c_3 => ?_)
  ·
    have dc_3 := i_eq c_3
    exact wp_so1 trivial
  ·
    have dc_3 := i_ne c_3
    exact wp_so1 trivial

theorem uf_X7_firstCross_13 (N : Nat) (k_2 : Int32 → Int32 → List Int32 → Option (Int32)) (n : Nat) (x1 : Int32) (x2 : Int32) (x3 : Int32) (v_at : List Int32) : fX7_firstCross_13 N k_2 (n + 1) x1 x2 x3 v_at = 
    if (x1 - (1 : Int32)) ≤ x3 then
    (mm_nm (x2 + (1 : Int32)) (fun (y_4 : Int32) =>
    k_2 x1 y_4 v_at))
    else (mm_bd1 (fX7_crossing N x2 x3 v_at) (fun (r_5 : Bool) =>
    if r_5 = false then
    (mm_nm (x3 + (2 : Int32)) (fun (y_8 : Int32) =>
    fX7_firstCross_13 N k_2 n x1 x2 y_8 v_at))
    else (some ((((10 : Int32) * x2) + x3))))) := rfl

set_option maxHeartbeats 4000000 in
set_option maxRecDepth 20000 in
theorem sf_X7_firstCross_13 {N : Nat} (hN : 700 ≤ N) {B : Nat} {k_2 : Int32 → Int32 → List Int32 → Option (Int32)} (hk_2 : ∀ (x1 : Int32) (x2 : Int32) (v_at : List Int32), v_at.length = 7 → 2 ≤ x1.toInt → x1.toInt ≤ 7 → 0 ≤ x2.toInt → x2.toInt ≤ 7 → (8 - x2.toInt).toNat < B → wp (k_2 x1 x2 v_at) (fun (r : Int32) => True)) : ∀ (n : Nat) (x1 : Int32) (x2 : Int32) (x3 : Int32) (v_at : List Int32), v_at.length = 7 → 2 ≤ x1.toInt → x1.toInt ≤ 7 → 0 ≤ x2.toInt → x2.toInt < 7 → x2.toInt < x1.toInt - 1 → 0 ≤ x3.toInt → x3.toInt ≤ 9 → (8 - x2.toInt).toNat < B + 1 → (10 - x3.toInt).toNat < n → wp (fX7_firstCross_13 N k_2 n x1 x2 x3 v_at) (fun (r : Int32) => True) := by
  intro n
  induction n with
  | zero =>
    intro x1 x2 x3 v_at h_0 h_1 h_2 h_3 h_4 h_5 h_6 h_7 h_8 hm
    exact absurd hm (by omega)
  | succ n ih =>
    intro x1 x2 x3 v_at h_0 h_1 h_2 h_3 h_4 h_5 h_6 h_7 h_8 hm
    refine wp_of (uf_X7_firstCross_13 _ _ _ _ _ _ _) ?_
    have n_2 : (1 : Int32).toInt = 1 := by decide
    generalize hz_z : (x1 - (1 : Int32)) = z
    have e_3 := i_subE hz_z (by omega) (by omega)
    refine wp_if (fun c_1 => ?_) (fun c_1 => ?_)
    ·
      have dc_1 := i_le c_1
      refine wp_nm (fun y_4 h_y_4 => ?_)
      have e_4 := i_addE h_y_4.symm (by omega) (by omega)
      exact hk_2 _ _ _ h_0 h_1 h_2 (by omega) (by omega) (by omega)
    ·
      have dc_1 := i_nle c_1
      refine wp_bd1 (sf_X7_crossing hN h_0 h_3 (by omega) h_6 (by omega)) (fun r_5 _ => ?_)
      refine wp_if (fun c_5 => ?_) (fun c_5 => ?_)
      ·
        have n_6 : (2 : Int32).toInt = 2 := by decide
        refine wp_nm (fun y_8 h_y_8 => ?_)
        have e_7 := i_addE h_y_8.symm (by omega) (by omega)
        exact ih _ _ _ _ h_0 h_1 h_2 h_3 h_4 h_5 (by omega) (by omega) h_8 (by omega)
      ·
        exact wp_so1 trivial

theorem uf_X7_firstCross_2 (N : Nat) (n : Nat) (x1 : Int32) (x2 : Int32) (v_at : List Int32) : fX7_firstCross_2 N (n + 1) x1 x2 v_at = 
    if (x1 - (1 : Int32)) ≤ x2 then
    (some ((-1 : Int32)))
    else (mm_nm ((x2 + (2 : Int32))) (fun (y_2 : Int32) =>
    fX7_firstCross_13 N (fX7_firstCross_2 N n) N x1 x2 y_2 v_at)) := rfl

set_option maxHeartbeats 4000000 in
set_option maxRecDepth 20000 in
theorem sf_X7_firstCross_2 {N : Nat} (hN : 700 ≤ N)  : ∀ (n : Nat) (x1 : Int32) (x2 : Int32) (v_at : List Int32), v_at.length = 7 → 2 ≤ x1.toInt → x1.toInt ≤ 7 → 0 ≤ x2.toInt → x2.toInt ≤ 7 → (8 - x2.toInt).toNat < n → wp (fX7_firstCross_2 N n x1 x2 v_at) (fun (r : Int32) => True) := by
  intro n
  induction n with
  | zero =>
    intro x1 x2 v_at h_0 h_1 h_2 h_3 h_4 hm
    exact absurd hm (by omega)
  | succ n ih =>
    intro x1 x2 v_at h_0 h_1 h_2 h_3 h_4 hm
    refine wp_of (uf_X7_firstCross_2 _ _ _ _ _) ?_
    have n_2 : (1 : Int32).toInt = 1 := by decide
    generalize hz_z : (x1 - (1 : Int32)) = z
    have e_3 := i_subE hz_z (by omega) (by omega)
    refine wp_if (fun c_1 => ?_) (fun c_1 => ?_)
    ·
      have dc_1 := i_le c_1
      exact wp_so1 trivial
    ·
      have dc_1 := i_nle c_1
      have n_4 : (2 : Int32).toInt = 2 := by decide
      refine wp_nm (fun y_2 h_y_2 => ?_)
      have e_5 := i_addE h_y_2.symm (by omega) (by omega)
      exact sf_X7_firstCross_13 hN ih _ _ _ _ _ h_0 h_1 h_2 h_3 (by omega) (by omega) (by omega) (by omega) (by omega) (by omega)

theorem uf_X7_firstCross (N : Nat) (x1 : Int32) (v_at : List Int32) : fX7_firstCross N x1 v_at = fX7_firstCross_2 N N x1 (0 : Int32) v_at := rfl

set_option maxHeartbeats 4000000 in
set_option maxRecDepth 20000 in
theorem sf_X7_firstCross {N : Nat} (hN : 700 ≤ N) {x1 : Int32} {v_at : List Int32} (h_0 : v_at.length = 7) (h_1 : 2 ≤ x1.toInt) (h_2 : x1.toInt ≤ 7) : wp (fX7_firstCross N x1 v_at) (fun (r : Int32) => True) := by
  refine wp_of (uf_X7_firstCross _ _ _) ?_
  have n_1 : (0 : Int32).toInt = 0 := by decide
  exact sf_X7_firstCross_2 hN _ _ _ _ h_0 h_1 h_2 (by omega) (by omega) (by omega)

theorem uf_X7_bits_22 (N : Nat) (k_4 : Int32 → Int32 → Int32 → List Int32 → Option (Int32)) (x1 : Int32) (x2 : Int32) (x3 : Int32) (s0 : Int32) (v_at : List Int32) : fX7_bits_22 N k_4 x1 x2 x3 s0 v_at = mm_ck (mm_inb x3 v_at.length) (mm_ck (mm_inb (x3 + (1 : Int32)) v_at.length) (if (mm_ig v_at (x3 + (1 : Int32))) ≤ (mm_ig v_at x3) then
    (fX7_bits_46 N k_4 x1 x2 x3 s0 (0 : Int32) v_at)
    else (fX7_bits_46 N k_4 x1 x2 x3 s0 (1 : Int32) v_at))) := rfl

theorem uf_X7_bits_4 (N : Nat) (n : Nat) (x1 : Int32) (x2 : Int32) (x3 : Int32) (v_at : List Int32) : fX7_bits_4 N (n + 1) x1 x2 x3 v_at = 
    if (x1 - (1 : Int32)) ≤ x3 then
    (some (x2))
    else (mm_ck (mm_nz (2 : Int32)) (if (mm_rem x3 (2 : Int32)) = 0 then
    (fX7_bits_22 N (fX7_bits_4 N n) x1 x2 x3 (1 : Int32) v_at)
    else (fX7_bits_22 N (fX7_bits_4 N n) x1 x2 x3 (0 : Int32) v_at))) := rfl

theorem uf_X7_bits_46 (N : Nat) (k_4 : Int32 → Int32 → Int32 → List Int32 → Option (Int32)) (x1 : Int32) (x2 : Int32) (x3 : Int32) (x4 : Int32) (s0 : Int32) (v_at : List Int32) : fX7_bits_46 N k_4 x1 x2 x3 x4 s0 v_at = if s0 = x4 then
    (mm_nm ((x2 ||| ((1 : Int32) <<< (x3 &&& 31)))) (fun (y_8 : Int32) =>
    fX7_bits_57 N k_4 x1 y_8 x3 v_at))
    else (fX7_bits_57 N k_4 x1 x2 x3 v_at) := rfl

theorem uf_X7_bits_57 (N : Nat) (k_4 : Int32 → Int32 → Int32 → List Int32 → Option (Int32)) (x1 : Int32) (x2 : Int32) (x3 : Int32) (v_at : List Int32) : fX7_bits_57 N k_4 x1 x2 x3 v_at = mm_nm (x3 + (1 : Int32)) (fun (y_9 : Int32) =>
    k_4 x1 x2 y_9 v_at) := rfl

set_option maxHeartbeats 4000000 in
set_option maxRecDepth 20000 in
theorem sf_X7_bits_4 {N : Nat} (hN : 700 ≤ N)  : ∀ (n : Nat) (x1 : Int32) (x2 : Int32) (x3 : Int32) (v_at : List Int32), v_at.length = 7 → 2 ≤ x1.toInt → x1.toInt ≤ 7 → 0 ≤ x3.toInt → x3.toInt ≤ 7 → (8 - x3.toInt).toNat < n → wp (fX7_bits_4 N n x1 x2 x3 v_at) (fun (r : Int32) => True) := by
  intro n
  induction n with
  | zero =>
    intro x1 x2 x3 v_at h_0 h_1 h_2 h_3 h_4 hm
    exact absurd hm (by omega)
  | succ n ih =>
    intro x1 x2 x3 v_at h_0 h_1 h_2 h_3 h_4 hm
    refine wp_of (uf_X7_bits_4 _ _ _ _ _ _) ?_
    have n_2 : (1 : Int32).toInt = 1 := by decide
    generalize hz_z : (x1 - (1 : Int32)) = z
    have e_3 := i_subE hz_z (by omega) (by omega)
    refine wp_if (fun c_1 => ?_) (fun c_1 => ?_)
    ·
      have dc_1 := i_le c_1
      exact wp_so1 trivial
    ·
      have dc_1 := i_nle c_1
      have n_4 : (2 : Int32).toInt = 2 := by decide
      refine wp_ck (i_nz (by omega)) ?_
      generalize hz_z__6 : (mm_rem x3 (2 : Int32)) = z__6
      have e_7 := i_remE (c := 2) (by decide) (by decide) hz_z__6 (by omega)
      have n_8 : (0 : Int32).toInt = 0 := by decide
      refine wp_if (fun c_5 => ?_) (fun c_5 => ?_)
      ·
        have dc_5 := i_eq c_5
        refine wp_of (uf_X7_bits_22 _ _ _ _ _ _ _) ?_
        refine wp_ck (i_inb (by omega) (by omega)) ?_
        generalize hz_z__9 : (x3 + (1 : Int32)) = z__9
        have e_10 := i_addE hz_z__9 (by omega) (by omega)
        refine wp_ck (i_inb (by omega) (by omega)) ?_
        refine wp_if (fun c_11 => ?_) (fun c_11 => ?_)
        ·
          have dc_11 := i_le c_11
          refine wp_of (uf_X7_bits_46 _ _ _ _ _ _ _ _) ?_
          refine wp_ifn (by decide) ?_
          refine wp_of (uf_X7_bits_57 _ _ _ _ _ _) ?_
          refine wp_nm (fun y_9 h_y_9 => ?_)
          have e_12 := i_addE h_y_9.symm (by omega) (by omega)
          exact ih _ _ _ _ h_0 h_1 h_2 (by omega) (by omega) (by omega)
        ·
          have dc_11 := i_nle c_11
          refine wp_of (uf_X7_bits_46 _ _ _ _ _ _ _ _) ?_
          refine wp_ifp (by decide) ?_
          refine wp_nm (fun y_8 _ => ?_)
          refine wp_of (uf_X7_bits_57 _ _ _ _ _ _) ?_
          refine wp_nm (fun y_9__13 h_y_9__13 => ?_)
          have e_14 := i_addE h_y_9__13.symm (by omega) (by omega)
          exact ih _ _ _ _ h_0 h_1 h_2 (by omega) (by omega) (by omega)
      ·
        have dc_5 := i_ne c_5
        refine wp_of (uf_X7_bits_22 _ _ _ _ _ _ _) ?_
        refine wp_ck (i_inb (by omega) (by omega)) ?_
        generalize hz_z__15 : (x3 + (1 : Int32)) = z__15
        have e_16 := i_addE hz_z__15 (by omega) (by omega)
        refine wp_ck (i_inb (by omega) (by omega)) ?_
        refine wp_if (fun c_17 => ?_) (fun c_17 => ?_)
        ·
          have dc_17 := i_le c_17
          refine wp_of (uf_X7_bits_46 _ _ _ _ _ _ _ _) ?_
          refine wp_ifp (by decide) ?_
          refine wp_nm (fun y_8__18 _ => ?_)
          refine wp_of (uf_X7_bits_57 _ _ _ _ _ _) ?_
          refine wp_nm (fun y_9__19 h_y_9__19 => ?_)
          have e_20 := i_addE h_y_9__19.symm (by omega) (by omega)
          exact ih _ _ _ _ h_0 h_1 h_2 (by omega) (by omega) (by omega)
        ·
          have dc_17 := i_nle c_17
          refine wp_of (uf_X7_bits_46 _ _ _ _ _ _ _ _) ?_
          refine wp_ifn (by decide) ?_
          refine wp_of (uf_X7_bits_57 _ _ _ _ _ _) ?_
          refine wp_nm (fun y_9__21 h_y_9__21 => ?_)
          have e_22 := i_addE h_y_9__21.symm (by omega) (by omega)
          exact ih _ _ _ _ h_0 h_1 h_2 (by omega) (by omega) (by omega)

theorem uf_X7_bits (N : Nat) (x1 : Int32) (v_at : List Int32) : fX7_bits N x1 v_at = fX7_bits_4 N N x1 (0 : Int32) (0 : Int32) v_at := rfl

set_option maxHeartbeats 4000000 in
set_option maxRecDepth 20000 in
theorem sf_X7_bits {N : Nat} (hN : 700 ≤ N) {x1 : Int32} {v_at : List Int32} (h_0 : v_at.length = 7) (h_1 : 2 ≤ x1.toInt) (h_2 : x1.toInt ≤ 7) : wp (fX7_bits N x1 v_at) (fun (r : Int32) => True) := by
  refine wp_of (uf_X7_bits _ _ _) ?_
  have n_1 : (0 : Int32).toInt = 0 := by decide
  exact sf_X7_bits_4 hN _ _ _ _ _ h_0 h_1 h_2 (by omega) (by omega) (by omega)

theorem uf_X7_isLaid (N : Nat) (x1 : Int32) (x2 : Int32) (v_at : List Int32) : fX7_isLaid N x1 x2 v_at = if x2 < 0 then
    (some (false))
    else (if (x1 - (1 : Int32)) ≤ x2 then
    (some (false))
    else (mm_ck (mm_inb x2 v_at.length) (if (mm_ig v_at x2) < 0 then
    (some (false))
    else (mm_ck (mm_inb (x2 + (1 : Int32)) v_at.length) (if (mm_ig v_at (x2 + (1 : Int32))) < 0 then
    (some (false))
    else (some (true))))))) := rfl

set_option maxHeartbeats 4000000 in
set_option maxRecDepth 20000 in
theorem sf_X7_isLaid {N : Nat} (hN : 700 ≤ N) {x1 : Int32} {x2 : Int32} {v_at : List Int32} (h_0 : v_at.length = 7) (h_1 : 2 ≤ x1.toInt) (h_2 : x1.toInt ≤ 7) : wp (fX7_isLaid N x1 x2 v_at) (fun (r : Bool) => ((r = true ∧ 0 ≤ x2.toInt ∧ x2.toInt < x1.toInt - 1) ∨ (r = false ∧ True))) := by
  refine wp_of (uf_X7_isLaid _ _ _ _) ?_
  have n_2 : (0 : Int32).toInt = 0 := by decide
  refine wp_if (fun c_1 => ?_) (fun c_1 => ?_)
  ·
    have dc_1 := i_lt c_1
    exact wp_so1 (by first | exact Or.inl ⟨rfl, by first | trivial | omega⟩ | exact Or.inr ⟨rfl, by first | trivial | omega⟩)
  ·
    have dc_1 := i_nlt c_1
    have n_4 : (1 : Int32).toInt = 1 := by decide
    generalize hz_z : (x1 - (1 : Int32)) = z
    have e_5 := i_subE hz_z (by omega) (by omega)
    refine wp_if (fun c_3 => ?_) (fun c_3 => ?_)
    ·
      have dc_3 := i_le c_3
      exact wp_so1 (by first | exact Or.inl ⟨rfl, by first | trivial | omega⟩ | exact Or.inr ⟨rfl, by first | trivial | omega⟩)
    ·
      have dc_3 := i_nle c_3
      refine wp_ck (i_inb (by omega) (by omega)) ?_
      refine wp_if (fun c_6 => ?_) (fun c_6 => ?_)
      ·
        have dc_6 := i_lt c_6
        exact wp_so1 (by first | exact Or.inl ⟨rfl, by first | trivial | omega⟩ | exact Or.inr ⟨rfl, by first | trivial | omega⟩)
      ·
        have dc_6 := i_nlt c_6
        generalize hz_z__7 : (x2 + (1 : Int32)) = z__7
        first | have e_8 := i_addE hz_z__7 (by omega) (by omega) | obtain ⟨k_8, e_8, e1_8, e2_8⟩ := i_addY hz_z__7
        refine wp_ck (i_inb (by omega) (by omega)) ?_
        refine wp_if (fun c_9 => ?_) (fun c_9 => ?_)
        ·
          have dc_9 := i_lt c_9
          exact wp_so1 (by first | exact Or.inl ⟨rfl, by first | trivial | omega⟩ | exact Or.inr ⟨rfl, by first | trivial | omega⟩)
        ·
          have dc_9 := i_nlt c_9
          exact wp_so1 (by first | exact Or.inl ⟨rfl, by first | trivial | omega⟩ | exact Or.inr ⟨rfl, by first | trivial | omega⟩)

theorem uf_X7_crossesLaid_15 (N : Nat) (n : Nat) (x1 : Int32) (x2 : Int32) (x3 : Int32) (v_at : List Int32) : fX7_crossesLaid_15 N (n + 1) x1 x2 x3 v_at = 
    if (x1 - (1 : Int32)) ≤ x3 then
    (some (false))
    else (if x3 = x2 then
    (fX7_crossesLaid_47 N (fX7_crossesLaid_15 N n) x1 x2 x3 v_at)
    else (mm_bd1 (fX7_isLaid N x1 x3 v_at) (fun (r_8 : Bool) =>
    if r_8 = false then
    (fX7_crossesLaid_47 N (fX7_crossesLaid_15 N n) x1 x2 x3 v_at)
    else (mm_bd1 (fX7_crossing N x2 x3 v_at) (fun (r_11 : Bool) =>
    if r_11 = false then
    (fX7_crossesLaid_47 N (fX7_crossesLaid_15 N n) x1 x2 x3 v_at)
    else (some (true))))))) := rfl

theorem uf_X7_crossesLaid_47 (N : Nat) (k_15 : Int32 → Int32 → Int32 → List Int32 → Option (Bool)) (x1 : Int32) (x2 : Int32) (x3 : Int32) (v_at : List Int32) : fX7_crossesLaid_47 N k_15 x1 x2 x3 v_at = mm_nm (x3 + (2 : Int32)) (fun (y_14 : Int32) =>
    k_15 x1 x2 y_14 v_at) := rfl

set_option maxHeartbeats 4000000 in
set_option maxRecDepth 20000 in
theorem sf_X7_crossesLaid_15 {N : Nat} (hN : 700 ≤ N)  : ∀ (n : Nat) (x1 : Int32) (x2 : Int32) (x3 : Int32) (v_at : List Int32), v_at.length = 7 → 2 ≤ x1.toInt → x1.toInt ≤ 7 → 0 ≤ x2.toInt → x2.toInt < 6 → 0 ≤ x3.toInt → x3.toInt ≤ 8 → (9 - x3.toInt).toNat < n → wp (fX7_crossesLaid_15 N n x1 x2 x3 v_at) (fun (r : Bool) => True) := by
  intro n
  induction n with
  | zero =>
    intro x1 x2 x3 v_at h_0 h_1 h_2 h_3 h_4 h_5 h_6 hm
    exact absurd hm (by omega)
  | succ n ih =>
    intro x1 x2 x3 v_at h_0 h_1 h_2 h_3 h_4 h_5 h_6 hm
    refine wp_of (uf_X7_crossesLaid_15 _ _ _ _ _ _) ?_
    have n_2 : (1 : Int32).toInt = 1 := by decide
    generalize hz_z : (x1 - (1 : Int32)) = z
    have e_3 := i_subE hz_z (by omega) (by omega)
    refine wp_if (fun c_1 => ?_) (fun c_1 => ?_)
    ·
      have dc_1 := i_le c_1
      exact wp_so1 trivial
    ·
      have dc_1 := i_nle c_1
      refine wp_if (fun c_4 => ?_) (fun c_4 => ?_)
      ·
        have dc_4 := i_eq c_4
        refine wp_of (uf_X7_crossesLaid_47 _ _ _ _ _ _) ?_
        have n_5 : (2 : Int32).toInt = 2 := by decide
        refine wp_nm (fun y_14 h_y_14 => ?_)
        have e_6 := i_addE h_y_14.symm (by omega) (by omega)
        exact ih _ _ _ _ h_0 h_1 h_2 h_3 h_4 (by omega) (by omega) (by omega)
      ·
        have dc_4 := i_ne c_4
        refine wp_bd1 (sf_X7_isLaid hN h_0 h_1 h_2) (fun r_8 q_7 => ?_)
        rcases q_7 with ⟨rfl, q_7⟩ | ⟨rfl, q_7⟩
        ·
          refine wp_ifn (by decide) ?_
          refine wp_bd1 (sf_X7_crossing hN h_0 h_3 h_4 h_5 (by omega)) (fun r_11 _ => ?_)
          refine wp_if (fun c_8 => ?_) (fun c_8 => ?_)
          ·
            refine wp_of (uf_X7_crossesLaid_47 _ _ _ _ _ _) ?_
            have n_10 : (2 : Int32).toInt = 2 := by decide
            refine wp_nm (fun y_14__9 h_y_14__9 => ?_)
            have e_11 := i_addE h_y_14__9.symm (by omega) (by omega)
            exact ih _ _ _ _ h_0 h_1 h_2 h_3 h_4 (by omega) (by omega) (by omega)
          ·
            exact wp_so1 trivial
        ·
          refine wp_ifp (by decide) ?_
          refine wp_of (uf_X7_crossesLaid_47 _ _ _ _ _ _) ?_
          have n_13 : (2 : Int32).toInt = 2 := by decide
          refine wp_nm (fun y_14__12 h_y_14__12 => ?_)
          have e_14 := i_addE h_y_14__12.symm (by omega) (by omega)
          exact ih _ _ _ _ h_0 h_1 h_2 h_3 h_4 (by omega) (by omega) (by omega)

theorem uf_X7_crossesLaid (N : Nat) (x1 : Int32) (x2 : Int32) (v_at : List Int32) : fX7_crossesLaid N x1 x2 v_at = mm_bd1 (fX7_isLaid N x1 x2 v_at) (fun (r_1 : Bool) =>
    if r_1 = false then
    (some (false))
    else (mm_ck (mm_nz (2 : Int32)) (mm_nm ((mm_rem x2 (2 : Int32))) (fun (y_5 : Int32) =>
    fX7_crossesLaid_15 N N x1 x2 y_5 v_at)))) := rfl

set_option maxHeartbeats 4000000 in
set_option maxRecDepth 20000 in
theorem sf_X7_crossesLaid {N : Nat} (hN : 700 ≤ N) {x1 : Int32} {x2 : Int32} {v_at : List Int32} (h_0 : v_at.length = 7) (h_1 : 2 ≤ x1.toInt) (h_2 : x1.toInt ≤ 7) : wp (fX7_crossesLaid N x1 x2 v_at) (fun (r : Bool) => True) := by
  refine wp_of (uf_X7_crossesLaid _ _ _ _) ?_
  refine wp_bd1 (sf_X7_isLaid hN h_0 h_1 h_2) (fun r_1 q_1 => ?_)
  rcases q_1 with ⟨rfl, q_1⟩ | ⟨rfl, q_1⟩
  ·
    refine wp_ifn (by decide) ?_
    have n_2 : (2 : Int32).toInt = 2 := by decide
    refine wp_ck (i_nz (by omega)) ?_
    refine wp_nm (fun y_5 h_y_5 => ?_)
    have e_3 := i_remL (c := 2) (by decide) (by decide) h_y_5.symm
    exact sf_X7_crossesLaid_15 hN _ _ _ _ _ h_0 h_1 h_2 (by omega) (by omega) (by omega) (by omega) (by omega)
  ·
    refine wp_ifp (by decide) ?_
    exact wp_so1 trivial

theorem uf_X7_enter (N : Nat) (x1 : Int32) (x2 : Int32) (v_list : List Int32) (v_found : List Int32) : fX7_enter N x1 x2 v_list v_found = mm_ck (mm_inb x1 mm_START.length) (mm_ck (mm_inb x1 v_found.length) (mm_nm (((mm_ig mm_START x1) + (mm_ig v_found x1))) (fun (y_3 : Int32) =>
    mm_ck (mm_inb (x1 + (1 : Int32)) mm_START.length) (if (mm_ig mm_START (x1 + (1 : Int32))) ≤ y_3 then
    (some (v_list, v_found))
    else (mm_ck (mm_inb y_3 v_list.length) (mm_nm (mm_is v_list y_3 x2) (fun (l_7 : List Int32) =>
    mm_ck (mm_inb x1 v_found.length) (mm_nm (((mm_ig v_found x1) + (1 : Int32))) (fun (y_9 : Int32) =>
    mm_ck (mm_inb x1 v_found.length) (mm_nm (mm_is v_found x1 y_9) (fun (l_11 : List Int32) =>
    some (l_7, l_11)))))))))))) := rfl

set_option maxHeartbeats 4000000 in
set_option maxRecDepth 20000 in
theorem sf_X7_enter {N : Nat} (hN : 700 ≤ N) {x1 : Int32} {x2 : Int32} {v_list : List Int32} {v_found : List Int32} (h_0 : v_list.length = 680) (h_1 : v_found.length = 8) (h_2 : fnd v_found) (h_3 : 2 ≤ x1.toInt) (h_4 : x1.toInt ≤ 7) : wp (fX7_enter N x1 x2 v_list v_found) (cu2 (fun (wv_list : List Int32) (wv_found : List Int32) => wv_list.length = 680 ∧ wv_found.length = 8 ∧ fnd wv_found)) := by
  refine wp_of (uf_X7_enter _ _ _ _ _) ?_
  have nl_1 : mm_START.length = 9 := rfl
  refine wp_ck (i_inb (by omega) (by omega)) ?_
  refine wp_ck (i_inb (by omega) (by omega)) ?_
  obtain ⟨e_2, e1_2⟩ := zn_get zn_start (i := x1) (by omega) (by omega) (by omega) (by omega)
  obtain ⟨e_3, e1_3⟩ := fnd_get h_2 (i := x1) (by omega) (by omega)
  refine wp_nm (fun y_3 h_y_3 => ?_)
  have e_4 := i_addE h_y_3.symm (by omega) (by omega)
  have n_5 : (1 : Int32).toInt = 1 := by decide
  generalize hz_z : (x1 + (1 : Int32)) = z
  have e_6 := i_addE hz_z (by omega) (by omega)
  refine wp_ck (i_inb (by omega) (by omega)) ?_
  obtain ⟨e_8, e1_8⟩ := zn_get zn_start (i := z) (by omega) (by omega) (by omega) (by omega)
  refine wp_if (fun c_7 => ?_) (fun c_7 => ?_)
  ·
    have dc_7 := i_le c_7
    exact wp_so2 ⟨h_0, h_1, h_2⟩
  ·
    have dc_7 := i_nle c_7
    refine wp_ck (i_inb (by omega) (by omega)) ?_
    refine wp_nm (fun l_7 h_l_7 => ?_)
    have nl_l_7 : l_7.length = 680 := by rw [h_l_7, is_len]; assumption
    refine wp_ck (i_inb (by omega) (by omega)) ?_
    refine wp_nm (fun y_9 h_y_9 => ?_)
    have e_9 := i_addE h_y_9.symm (by omega) (by omega)
    refine wp_ck (i_inb (by omega) (by omega)) ?_
    refine wp_nm (fun l_11 h_l_11 => ?_)
    have nl_l_11 : l_11.length = 8 := by rw [h_l_11, is_len]; assumption
    exact wp_so2 ⟨nl_l_7, nl_l_11, (by first | assumption | (rw [h_l_11]; exact fnd_set (j := z) (by assumption) (by assumption) (by omega) (by omega) (by omega) (by omega) (by omega)))⟩

theorem uf_X7_grow_15 (N : Nat) (go : Int32 → Int32 → Int32 → List Int32 → List Int32 → List Int32 → Option (List Int32 × List Int32 × List Int32)) (n : Nat) (x1 : Int32) (x2 : Int32) (x3 : Int32) (x4 : Int32) (v_list : List Int32) (v_found : List Int32) (v_at : List Int32) : fX7_grow_15 N go (n + 1) x1 x2 x3 x4 v_list v_found v_at = 
    if x1 ≤ x4 then
    (some (v_list, v_found, v_at))
    else (mm_ck (mm_inb x4 v_at.length) (if (mm_ig v_at x4) < 0 then
    (mm_ck (mm_inb x4 v_at.length) (mm_nm (mm_is v_at x4 x2) (fun (l_9 : List Int32) =>
    mm_bd1 (fX7_crossesLaid N x1 (x4 - (1 : Int32)) l_9) (fun (r_10 : Bool) =>
    if r_10 = false then
    (mm_bd1 (fX7_crossesLaid N x1 x4 l_9) (fun (r_13 : Bool) =>
    if r_13 = false then
    (mm_bd3 (go x1 (x2 + (1 : Int32)) ((((10 : Int32) * x3) + x4) + (1 : Int32)) v_list v_found l_9) (fun (w_16 : List Int32) (w_17 : List Int32) (w_18 : List Int32) =>
    fX7_grow_81 N go (fX7_grow_15 N go n) x1 x2 x3 x4 w_16 w_17 w_18))
    else (fX7_grow_81 N go (fX7_grow_15 N go n) x1 x2 x3 x4 v_list v_found l_9)))
    else (fX7_grow_81 N go (fX7_grow_15 N go n) x1 x2 x3 x4 v_list v_found l_9)))))
    else (fX7_grow_89 N go (fX7_grow_15 N go n) x1 x2 x3 x4 v_list v_found v_at))) := rfl

theorem uf_X7_grow_81 (N : Nat) (go : Int32 → Int32 → Int32 → List Int32 → List Int32 → List Int32 → Option (List Int32 × List Int32 × List Int32)) (k_15 : Int32 → Int32 → Int32 → Int32 → List Int32 → List Int32 → List Int32 → Option (List Int32 × List Int32 × List Int32)) (x1 : Int32) (x2 : Int32) (x3 : Int32) (x4 : Int32) (v_list : List Int32) (v_found : List Int32) (v_at : List Int32) : fX7_grow_81 N go k_15 x1 x2 x3 x4 v_list v_found v_at = mm_ck (mm_inb x4 v_at.length) (mm_nm (mm_is v_at x4 (-1 : Int32)) (fun (l_22 : List Int32) =>
    fX7_grow_89 N go k_15 x1 x2 x3 x4 v_list v_found l_22)) := rfl

theorem uf_X7_grow_89 (N : Nat) (go : Int32 → Int32 → Int32 → List Int32 → List Int32 → List Int32 → Option (List Int32 × List Int32 × List Int32)) (k_15 : Int32 → Int32 → Int32 → Int32 → List Int32 → List Int32 → List Int32 → Option (List Int32 × List Int32 × List Int32)) (x1 : Int32) (x2 : Int32) (x3 : Int32) (x4 : Int32) (v_list : List Int32) (v_found : List Int32) (v_at : List Int32) : fX7_grow_89 N go k_15 x1 x2 x3 x4 v_list v_found v_at = mm_nm (x4 + (1 : Int32)) (fun (y_20 : Int32) =>
    k_15 x1 x2 x3 y_20 v_list v_found v_at) := rfl

set_option maxHeartbeats 4000000 in
set_option maxRecDepth 20000 in
theorem sf_X7_grow_15 {N : Nat} (hN : 700 ≤ N) {K : Int} {go : Int32 → Int32 → Int32 → List Int32 → List Int32 → List Int32 → Option (List Int32 × List Int32 × List Int32)} (hgo : ∀ (x1 : Int32) (x2 : Int32) (x3 : Int32) (v_list : List Int32) (v_found : List Int32) (v_at : List Int32), v_list.length = 680 → v_found.length = 8 → v_at.length = 7 → fnd v_found → 2 ≤ x1.toInt → x1.toInt ≤ 7 → 0 ≤ x2.toInt → x2.toInt ≤ x1.toInt → K ≤ x2.toInt → wp (go x1 x2 x3 v_list v_found v_at) (cu3 (fun (wv_list : List Int32) (wv_found : List Int32) (wv_at : List Int32) => wv_list.length = 680 ∧ wv_found.length = 8 ∧ wv_at.length = 7 ∧ fnd wv_found))) : ∀ (n : Nat) (x1 : Int32) (x2 : Int32) (x3 : Int32) (x4 : Int32) (v_list : List Int32) (v_found : List Int32) (v_at : List Int32), v_list.length = 680 → v_found.length = 8 → v_at.length = 7 → fnd v_found → 2 ≤ x1.toInt → x1.toInt ≤ 7 → 0 ≤ x2.toInt → x2.toInt < x1.toInt → K ≤ x2.toInt + 1 → 0 ≤ x4.toInt → x4.toInt ≤ 7 → (8 - x4.toInt).toNat < n → wp (fX7_grow_15 N go n x1 x2 x3 x4 v_list v_found v_at) (cu3 (fun (wv_list : List Int32) (wv_found : List Int32) (wv_at : List Int32) => wv_list.length = 680 ∧ wv_found.length = 8 ∧ wv_at.length = 7 ∧ fnd wv_found)) := by
  intro n
  induction n with
  | zero =>
    intro x1 x2 x3 x4 v_list v_found v_at h_0 h_1 h_2 h_3 h_4 h_5 h_6 h_7 h_8 h_9 h_10 hm
    exact absurd hm (by omega)
  | succ n ih =>
    intro x1 x2 x3 x4 v_list v_found v_at h_0 h_1 h_2 h_3 h_4 h_5 h_6 h_7 h_8 h_9 h_10 hm
    refine wp_of (uf_X7_grow_15 _ _ _ _ _ _ _ _ _ _) ?_
    refine wp_if (fun c_1 => ?_) (fun c_1 => ?_)
    ·
      have dc_1 := i_le c_1
      exact wp_so3 ⟨h_0, h_1, h_2, h_3⟩
    ·
      have dc_1 := i_nle c_1
      refine wp_ck (i_inb (by omega) (by omega)) ?_
      have n_3 : (0 : Int32).toInt = 0 := by decide
      refine wp_if (fun c_2 => ?_) (fun c_2 => ?_)
      ·
        have dc_2 := i_lt c_2
        refine wp_ck (i_inb (by omega) (by omega)) ?_
        refine wp_nm (fun l_9 h_l_9 => ?_)
        have nl_l_9 : l_9.length = 7 := by rw [h_l_9, is_len]; assumption
        refine wp_bd1 (sf_X7_crossesLaid hN nl_l_9 h_4 h_5) (fun r_10 _ => ?_)
        refine wp_if (fun c_4 => ?_) (fun c_4 => ?_)
        ·
          refine wp_bd1 (sf_X7_crossesLaid hN nl_l_9 h_4 h_5) (fun r_13 _ => ?_)
          refine wp_if (fun c_5 => ?_) (fun c_5 => ?_)
          ·
            have n_6 : (1 : Int32).toInt = 1 := by decide
            generalize hz_z : (x2 + (1 : Int32)) = z
            have e_7 := i_addE hz_z (by omega) (by omega)
            refine wp_bd3 (hgo _ _ _ _ _ _ h_0 h_1 nl_l_9 h_3 h_4 h_5 (by omega) (by omega) (by omega)) (fun w_16 w_17 w_18 ⟨q_8, q_9, q_10, q_11⟩ => ?_)
            refine wp_of (uf_X7_grow_81 _ _ _ _ _ _ _ _ _ _) ?_
            refine wp_ck (i_inb (by omega) (by omega)) ?_
            have n_12 : (-1 : Int32).toInt = -1 := by decide
            refine wp_nm (fun l_22 h_l_22 => ?_)
            have nl_l_22 : l_22.length = 7 := by rw [h_l_22, is_len]; assumption
            refine wp_of (uf_X7_grow_89 _ _ _ _ _ _ _ _ _ _) ?_
            refine wp_nm (fun y_20 h_y_20 => ?_)
            have e_13 := i_addE h_y_20.symm (by omega) (by omega)
            exact ih _ _ _ _ _ _ _ q_8 q_9 nl_l_22 q_11 h_4 h_5 h_6 h_7 h_8 (by omega) (by omega) (by omega)
          ·
            refine wp_of (uf_X7_grow_81 _ _ _ _ _ _ _ _ _ _) ?_
            refine wp_ck (i_inb (by omega) (by omega)) ?_
            have n_15 : (-1 : Int32).toInt = -1 := by decide
            refine wp_nm (fun l_22__14 h_l_22__14 => ?_)
            have nl_l_22__14 : l_22__14.length = 7 := by rw [h_l_22__14, is_len]; assumption
            refine wp_of (uf_X7_grow_89 _ _ _ _ _ _ _ _ _ _) ?_
            have n_17 : (1 : Int32).toInt = 1 := by decide
            refine wp_nm (fun y_20__16 h_y_20__16 => ?_)
            have e_18 := i_addE h_y_20__16.symm (by omega) (by omega)
            exact ih _ _ _ _ _ _ _ h_0 h_1 nl_l_22__14 h_3 h_4 h_5 h_6 h_7 h_8 (by omega) (by omega) (by omega)
        ·
          refine wp_of (uf_X7_grow_81 _ _ _ _ _ _ _ _ _ _) ?_
          refine wp_ck (i_inb (by omega) (by omega)) ?_
          have n_20 : (-1 : Int32).toInt = -1 := by decide
          refine wp_nm (fun l_22__19 h_l_22__19 => ?_)
          have nl_l_22__19 : l_22__19.length = 7 := by rw [h_l_22__19, is_len]; assumption
          refine wp_of (uf_X7_grow_89 _ _ _ _ _ _ _ _ _ _) ?_
          have n_22 : (1 : Int32).toInt = 1 := by decide
          refine wp_nm (fun y_20__21 h_y_20__21 => ?_)
          have e_23 := i_addE h_y_20__21.symm (by omega) (by omega)
          exact ih _ _ _ _ _ _ _ h_0 h_1 nl_l_22__19 h_3 h_4 h_5 h_6 h_7 h_8 (by omega) (by omega) (by omega)
      ·
        have dc_2 := i_nlt c_2
        refine wp_of (uf_X7_grow_89 _ _ _ _ _ _ _ _ _ _) ?_
        have n_25 : (1 : Int32).toInt = 1 := by decide
        refine wp_nm (fun y_20__24 h_y_20__24 => ?_)
        have e_26 := i_addE h_y_20__24.symm (by omega) (by omega)
        exact ih _ _ _ _ _ _ _ h_0 h_1 h_2 h_3 h_4 h_5 h_6 h_7 h_8 (by omega) (by omega) (by omega)

theorem uf_X7_grow (N : Nat) (M : Nat) (z0 : Int32) (z1 : Int32) (z2 : Int32) (z3 : List Int32) (z4 : List Int32) (z5 : List Int32) : fX7_grow N (M + 1) z0 z1 z2 z3 z4 z5 = (fX7_growo N (fX7_grow N M)) z0 z1 z2 z3 z4 z5 := rfl

theorem uf_X7_growo (N : Nat) (go : Int32 → Int32 → Int32 → List Int32 → List Int32 → List Int32 → Option (List Int32 × List Int32 × List Int32)) (x1 : Int32) (x2 : Int32) (x3 : Int32) (v_list : List Int32) (v_found : List Int32) (v_at : List Int32) : fX7_growo N go x1 x2 x3 v_list v_found v_at = if x2 = x1 then
    (mm_bd2 (fX7_enter N x1 x3 v_list v_found) (fun (w_2 : List Int32) (w_3 : List Int32) =>
    some (w_2, w_3, v_at)))
    else (fX7_grow_15 N go N x1 x2 x3 (0 : Int32) v_list v_found v_at) := rfl

set_option maxHeartbeats 4000000 in
set_option maxRecDepth 20000 in
theorem sf_X7_growo {N : Nat} (hN : 700 ≤ N) {K : Int} {go : Int32 → Int32 → Int32 → List Int32 → List Int32 → List Int32 → Option (List Int32 × List Int32 × List Int32)} {x1 : Int32} {x2 : Int32} {x3 : Int32} {v_list : List Int32} {v_found : List Int32} {v_at : List Int32} (h_0 : v_list.length = 680) (h_1 : v_found.length = 8) (h_2 : v_at.length = 7) (h_3 : fnd v_found) (h_4 : 2 ≤ x1.toInt) (h_5 : x1.toInt ≤ 7) (h_6 : 0 ≤ x2.toInt) (h_7 : x2.toInt ≤ x1.toInt) (hK : K ≤ x2.toInt + 1) (hgo : ∀ (x1 : Int32) (x2 : Int32) (x3 : Int32) (v_list : List Int32) (v_found : List Int32) (v_at : List Int32), v_list.length = 680 → v_found.length = 8 → v_at.length = 7 → fnd v_found → 2 ≤ x1.toInt → x1.toInt ≤ 7 → 0 ≤ x2.toInt → x2.toInt ≤ x1.toInt → K ≤ x2.toInt → wp (go x1 x2 x3 v_list v_found v_at) (cu3 (fun (wv_list : List Int32) (wv_found : List Int32) (wv_at : List Int32) => wv_list.length = 680 ∧ wv_found.length = 8 ∧ wv_at.length = 7 ∧ fnd wv_found))) : wp (fX7_growo N go x1 x2 x3 v_list v_found v_at) (cu3 (fun (wv_list : List Int32) (wv_found : List Int32) (wv_at : List Int32) => wv_list.length = 680 ∧ wv_found.length = 8 ∧ wv_at.length = 7 ∧ fnd wv_found)) := by
  refine wp_of (uf_X7_growo _ _ _ _ _ _ _ _) ?_
  refine wp_if (fun c_1 => ?_) (fun c_1 => ?_)
  ·
    have dc_1 := i_eq c_1
    refine wp_bd2 (sf_X7_enter hN h_0 h_1 h_3 h_4 h_5) (fun w_2 w_3 ⟨q_2, q_3, q_4⟩ => ?_)
    exact wp_so3 ⟨q_2, q_3, h_2, q_4⟩
  ·
    have dc_1 := i_ne c_1
    have n_5 : (0 : Int32).toInt = 0 := by decide
    exact sf_X7_grow_15 hN hgo _ _ _ _ _ _ _ _ h_0 h_1 h_2 h_3 h_4 h_5 h_6 (by omega) (by omega) (by omega) (by omega) (by omega)
set_option maxHeartbeats 4000000 in
set_option maxRecDepth 20000 in
theorem sf_X7_grow {N : Nat} (hN : 700 ≤ N) : ∀ (M : Nat) (x1 : Int32) (x2 : Int32) (x3 : Int32) (v_list : List Int32) (v_found : List Int32) (v_at : List Int32), v_list.length = 680 → v_found.length = 8 → v_at.length = 7 → fnd v_found → 2 ≤ x1.toInt → x1.toInt ≤ 7 → 0 ≤ x2.toInt → x2.toInt ≤ x1.toInt → 8 - (M : Int) ≤ x2.toInt → wp (fX7_grow N M x1 x2 x3 v_list v_found v_at) (cu3 (fun (wv_list : List Int32) (wv_found : List Int32) (wv_at : List Int32) => wv_list.length = 680 ∧ wv_found.length = 8 ∧ wv_at.length = 7 ∧ fnd wv_found)) := by
  intro M
  induction M with
  | zero =>
    intro x1 x2 x3 v_list v_found v_at h_0 h_1 h_2 h_3 h_4 h_5 h_6 h_7 hK
    exact absurd hK (by omega)
  | succ M ih =>
    intro x1 x2 x3 v_list v_found v_at h_0 h_1 h_2 h_3 h_4 h_5 h_6 h_7 hK
    rw [uf_X7_grow]
    exact sf_X7_growo (K := 8 - (M : Int)) hN h_0 h_1 h_2 h_3 h_4 h_5 h_6 h_7 (by omega) ih
set_option maxHeartbeats 4000000 in
set_option maxRecDepth 20000 in
theorem sf_X7_grow_go {N : Nat} (hN : 700 ≤ N) : ∀ (x1 : Int32) (x2 : Int32) (x3 : Int32) (v_list : List Int32) (v_found : List Int32) (v_at : List Int32), v_list.length = 680 → v_found.length = 8 → v_at.length = 7 → fnd v_found → 2 ≤ x1.toInt → x1.toInt ≤ 7 → 0 ≤ x2.toInt → x2.toInt ≤ x1.toInt → (0 : Int) ≤ x2.toInt → wp (fX7_grow N 9 x1 x2 x3 v_list v_found v_at) (cu3 (fun (wv_list : List Int32) (wv_found : List Int32) (wv_at : List Int32) => wv_list.length = 680 ∧ wv_found.length = 8 ∧ wv_at.length = 7 ∧ fnd wv_found)) := fun x1 x2 x3 v_list v_found v_at h_0 h_1 h_2 h_3 h_4 h_5 h_6 h_7 _ => sf_X7_grow hN 9 x1 x2 x3 v_list v_found v_at h_0 h_1 h_2 h_3 h_4 h_5 h_6 h_7 (by omega)
set_option maxHeartbeats 4000000 in
set_option maxRecDepth 20000 in
theorem sf_X7_grow_at {N : Nat} {M : Nat} (hN : 700 ≤ N) {x1 : Int32} {x2 : Int32} {x3 : Int32} {v_list : List Int32} {v_found : List Int32} {v_at : List Int32} (h_0 : v_list.length = 680) (h_1 : v_found.length = 8) (h_2 : v_at.length = 7) (h_3 : fnd v_found) (h_4 : 2 ≤ x1.toInt) (h_5 : x1.toInt ≤ 7) (h_6 : 0 ≤ x2.toInt) (h_7 : x2.toInt ≤ x1.toInt) (hK : 8 - (M : Int) ≤ x2.toInt) : wp (fX7_grow N M x1 x2 x3 v_list v_found v_at) (cu3 (fun (wv_list : List Int32) (wv_found : List Int32) (wv_at : List Int32) => wv_list.length = 680 ∧ wv_found.length = 8 ∧ wv_at.length = 7 ∧ fnd wv_found)) := sf_X7_grow hN M x1 x2 x3 v_list v_found v_at h_0 h_1 h_2 h_3 h_4 h_5 h_6 h_7 hK

theorem uf_X7_howMany (N : Nat) (x1 : Int32) (v_list : List Int32) (v_found : List Int32) (v_at : List Int32) : fX7_howMany N x1 v_list v_found v_at = mm_ck (mm_inb x1 v_found.length) (if (mm_ig v_found x1) = 0 then
    (mm_bd1 (fJ7_fill_53178 N (-1 : Int32) v_at) (fun (w_3 : List Int32) =>
    mm_bd3 (fX7_grow N 9 x1 (0 : Int32) (0 : Int32) v_list v_found w_3) (fun (w_5 : List Int32) (w_6 : List Int32) (w_7 : List Int32) =>
    fX7_howMany_24 N x1 w_5 w_6 w_7)))
    else (fX7_howMany_24 N x1 v_list v_found v_at)) := rfl

theorem uf_X7_howMany_24 (N : Nat) (x1 : Int32) (v_list : List Int32) (v_found : List Int32) (v_at : List Int32) : fX7_howMany_24 N x1 v_list v_found v_at = mm_ck (mm_inb x1 v_found.length) (some ((mm_ig v_found x1), v_list, v_found, v_at)) := rfl

set_option maxHeartbeats 4000000 in
set_option maxRecDepth 20000 in
theorem sf_X7_howMany {N : Nat} (hN : 700 ≤ N) {x1 : Int32} {v_list : List Int32} {v_found : List Int32} {v_at : List Int32} (h_0 : v_list.length = 680) (h_1 : v_found.length = 8) (h_2 : v_at.length = 7) (h_3 : fnd v_found) (h_4 : 2 ≤ x1.toInt) (h_5 : x1.toInt ≤ 7) : wp (fX7_howMany N x1 v_list v_found v_at) (cu4 (fun (r : Int32) (wv_list : List Int32) (wv_found : List Int32) (wv_at : List Int32) => 0 ≤ r.toInt ∧ (mm_ig mm_START x1).toInt + r.toInt ≤ 680 ∧ wv_list.length = 680 ∧ wv_found.length = 8 ∧ wv_at.length = 7 ∧ fnd wv_found)) := by
  have st := st_b (i := x1) (by omega) (by omega)
  refine wp_of (uf_X7_howMany _ _ _ _ _) ?_
  refine wp_ck (i_inb (by omega) (by omega)) ?_
  obtain ⟨e_2, e1_2⟩ := fnd_get h_3 (i := x1) (by omega) (by omega)
  have n_3 : (0 : Int32).toInt = 0 := by decide
  refine wp_if (fun c_1 => ?_) (fun c_1 => ?_)
  ·
    have dc_1 := i_eq c_1
    refine wp_bd1 (sf_J7_fill_53178 hN (by first | assumption | omega | decide) (by first | assumption | omega | decide)) (fun w_3 q_4 => ?_)
    have nl_w_3 : w_3.length = 7 := by omega
    refine wp_bd3 (sf_X7_grow_at (M := 9) hN h_0 h_1 nl_w_3 h_3 h_4 h_5 (by omega) (by omega) (by omega)) (fun w_5 w_6 w_7 ⟨q_5, q_6, q_7, q_8⟩ => ?_)
    refine wp_of (uf_X7_howMany_24 _ _ _ _ _) ?_
    refine wp_ck (i_inb (by omega) (by omega)) ?_
    obtain ⟨e_9, e1_9⟩ := fnd_get q_8 (i := x1) (by omega) (by omega)
    exact wp_so4 ⟨(by omega), (by omega), q_5, q_6, q_7, q_8⟩
  ·
    have dc_1 := i_ne c_1
    refine wp_of (uf_X7_howMany_24 _ _ _ _ _) ?_
    refine wp_ck (i_inb (by omega) (by omega)) ?_
    exact wp_so4 ⟨(by omega), (by omega), h_0, h_1, h_2, h_3⟩

theorem uf_X7_orderAt (N : Nat) (x1 : Int32) (x2 : Int32) (v_list : List Int32) (v_found : List Int32) (v_at : List Int32) : fX7_orderAt N x1 x2 v_list v_found v_at = if x2 < 0 then
    (some ((-1 : Int32), v_list, v_found, v_at))
    else (mm_bd4 (fX7_howMany N x1 v_list v_found v_at) (fun (r_2 : Int32) (w_3 : List Int32) (w_4 : List Int32) (w_5 : List Int32) =>
    if r_2 ≤ x2 then
    (some ((-1 : Int32), w_3, w_4, w_5))
    else (mm_ck (mm_inb x1 mm_START.length) (mm_ck (mm_inb ((mm_ig mm_START x1) + x2) w_3.length) (some ((mm_ig w_3 ((mm_ig mm_START x1) + x2)), w_3, w_4, w_5)))))) := rfl

set_option maxHeartbeats 4000000 in
set_option maxRecDepth 20000 in
theorem sf_X7_orderAt {N : Nat} (hN : 700 ≤ N) {x1 : Int32} {x2 : Int32} {v_list : List Int32} {v_found : List Int32} {v_at : List Int32} (h_0 : v_list.length = 680) (h_1 : v_found.length = 8) (h_2 : v_at.length = 7) (h_3 : fnd v_found) (h_4 : 2 ≤ x1.toInt) (h_5 : x1.toInt ≤ 7) : wp (fX7_orderAt N x1 x2 v_list v_found v_at) (cu4 (fun (r : Int32) (wv_list : List Int32) (wv_found : List Int32) (wv_at : List Int32) => wv_list.length = 680 ∧ wv_found.length = 8 ∧ wv_at.length = 7 ∧ fnd wv_found)) := by
  have st := st_b (i := x1) (by omega) (by omega)
  refine wp_of (uf_X7_orderAt _ _ _ _ _ _) ?_
  have n_2 : (0 : Int32).toInt = 0 := by decide
  refine wp_if (fun c_1 => ?_) (fun c_1 => ?_)
  ·
    have dc_1 := i_lt c_1
    exact wp_so4 ⟨h_0, h_1, h_2, h_3⟩
  ·
    have dc_1 := i_nlt c_1
    refine wp_bd4 (sf_X7_howMany hN h_0 h_1 h_2 h_3 h_4 h_5) (fun r_2 w_3 w_4 w_5 ⟨q_3, q_4, q_5, q_6, q_7, q_8⟩ => ?_)
    refine wp_if (fun c_9 => ?_) (fun c_9 => ?_)
    ·
      have dc_9 := i_le c_9
      exact wp_so4 ⟨q_5, q_6, q_7, q_8⟩
    ·
      have dc_9 := i_nle c_9
      have nl_10 : mm_START.length = 9 := rfl
      refine wp_ck (i_inb (by omega) (by omega)) ?_
      obtain ⟨e_11, e1_11⟩ := zn_get zn_start (i := x1) (by omega) (by omega) (by omega) (by omega)
      generalize hz_z : ((mm_ig mm_START x1) + x2) = z
      first | have e_12 := i_addE hz_z (by omega) (by omega) | obtain ⟨k_12, e_12, e1_12, e2_12⟩ := i_addY hz_z
      refine wp_ck (i_inb (by omega) (by omega)) ?_
      exact wp_so4 ⟨q_5, q_6, q_7, q_8⟩

theorem uf_X7_isBent (N : Nat) (x1 : Int32) (x2 : Int32) (x3 : Int32) (v_list : List Int32) (v_at : List Int32) : fX7_isBent N x1 x2 x3 v_list v_at = mm_ck (mm_inb x1 mm_START.length) (mm_ck (mm_inb ((mm_ig mm_START x1) + x2) v_list.length) (mm_bd2 (fX7_lay N x1 (mm_ig v_list ((mm_ig mm_START x1) + x2)) v_at) (fun (r_3 : Bool) (w_4 : List Int32) =>
    if r_3 = false then
    (some (false, w_4))
    else (mm_bd1 (fX7_bits N x1 w_4) (fun (r_7 : Int32) =>
    if r_7 = x3 then
    (some (true, w_4))
    else (some (false, w_4))))))) := rfl

set_option maxHeartbeats 4000000 in
set_option maxRecDepth 20000 in
theorem sf_X7_isBent {N : Nat} (hN : 700 ≤ N) {x1 : Int32} {x2 : Int32} {x3 : Int32} {v_list : List Int32} {v_at : List Int32} (h_0 : v_list.length = 680) (h_1 : v_at.length = 7) (h_2 : 2 ≤ x1.toInt) (h_3 : x1.toInt ≤ 7) (h_4 : 0 ≤ x2.toInt) (h_5 : (mm_ig mm_START x1).toInt + x2.toInt < 680) : wp (fX7_isBent N x1 x2 x3 v_list v_at) (cu2 (fun (r : Bool) (wv_at : List Int32) => wv_at.length = 7)) := by
  have st := st_b (i := x1) (by omega) (by omega)
  refine wp_of (uf_X7_isBent _ _ _ _ _ _) ?_
  have nl_1 : mm_START.length = 9 := rfl
  refine wp_ck (i_inb (by omega) (by omega)) ?_
  obtain ⟨e_2, e1_2⟩ := zn_get zn_start (i := x1) (by omega) (by omega) (by omega) (by omega)
  generalize hz_z : ((mm_ig mm_START x1) + x2) = z
  first | have e_3 := i_addE hz_z (by omega) (by omega) | obtain ⟨k_3, e_3, e1_3, e2_3⟩ := i_addY hz_z
  refine wp_ck (i_inb (by omega) (by omega)) ?_
  refine wp_bd2 (sf_X7_lay hN h_1 h_2 h_3) (fun r_3 w_4 q_4 => ?_)
  refine wp_if (fun c_5 => ?_) (fun c_5 => ?_)
  ·
    exact wp_so2 q_4
  ·
    refine wp_bd1 (sf_X7_bits hN q_4 h_2 h_3) (fun r_7 _ => ?_)
    refine wp_if (fun c_6 => ?_) (fun c_6 => ?_)
    ·
      have dc_6 := i_eq c_6
      exact wp_so2 q_4
    ·
      have dc_6 := i_ne c_6
      exact wp_so2 q_4

theorem uf_X7_howManyBent_12 (N : Nat) (n : Nat) (x1 : Int32) (x2 : Int32) (x3 : Int32) (x4 : Int32) (x5 : Int32) (v_list : List Int32) (v_found : List Int32) (v_at : List Int32) : fX7_howManyBent_12 N (n + 1) x1 x2 x3 x4 x5 v_list v_found v_at = 
    if x4 ≤ x5 then
    (some (x3, v_list, v_found, v_at))
    else (mm_bd2 (fX7_isBent N x1 x5 x2 v_list v_at) (fun (r_7 : Bool) (w_8 : List Int32) =>
    if r_7 = false then
    (fX7_howManyBent_33 N (fX7_howManyBent_12 N n) x1 x2 x3 x4 x5 v_list v_found w_8)
    else (mm_nm (x3 + (1 : Int32)) (fun (y_11 : Int32) =>
    fX7_howManyBent_33 N (fX7_howManyBent_12 N n) x1 x2 y_11 x4 x5 v_list v_found w_8)))) := rfl

theorem uf_X7_howManyBent_33 (N : Nat) (k_12 : Int32 → Int32 → Int32 → Int32 → Int32 → List Int32 → List Int32 → List Int32 → Option (Int32 × List Int32 × List Int32 × List Int32)) (x1 : Int32) (x2 : Int32) (x3 : Int32) (x4 : Int32) (x5 : Int32) (v_list : List Int32) (v_found : List Int32) (v_at : List Int32) : fX7_howManyBent_33 N k_12 x1 x2 x3 x4 x5 v_list v_found v_at = mm_nm (x5 + (1 : Int32)) (fun (y_12 : Int32) =>
    k_12 x1 x2 x3 x4 y_12 v_list v_found v_at) := rfl

set_option maxHeartbeats 4000000 in
set_option maxRecDepth 20000 in
theorem sf_X7_howManyBent_12 {N : Nat} (hN : 700 ≤ N)  : ∀ (n : Nat) (x1 : Int32) (x2 : Int32) (x3 : Int32) (x4 : Int32) (x5 : Int32) (v_list : List Int32) (v_found : List Int32) (v_at : List Int32), v_list.length = 680 → v_found.length = 8 → v_at.length = 7 → fnd v_found → 2 ≤ x1.toInt → x1.toInt ≤ 7 → 0 ≤ x5.toInt → (mm_ig mm_START x1).toInt + x4.toInt ≤ 680 → (x4.toInt - x5.toInt).toNat < n → wp (fX7_howManyBent_12 N n x1 x2 x3 x4 x5 v_list v_found v_at) (cu4 (fun (r : Int32) (wv_list : List Int32) (wv_found : List Int32) (wv_at : List Int32) => wv_list.length = 680 ∧ wv_found.length = 8 ∧ wv_at.length = 7 ∧ fnd wv_found)) := by
  intro n
  induction n with
  | zero =>
    intro x1 x2 x3 x4 x5 v_list v_found v_at h_0 h_1 h_2 h_3 h_4 h_5 h_6 h_7 hm
    exact absurd hm (by omega)
  | succ n ih =>
    intro x1 x2 x3 x4 x5 v_list v_found v_at h_0 h_1 h_2 h_3 h_4 h_5 h_6 h_7 hm
    have st := st_b (i := x1) (by omega) (by omega)
    refine wp_of (uf_X7_howManyBent_12 _ _ _ _ _ _ _ _ _ _) ?_
    refine wp_if (fun c_1 => ?_) (fun c_1 => ?_)
    ·
      have dc_1 := i_le c_1
      exact wp_so4 ⟨h_0, h_1, h_2, h_3⟩
    ·
      have dc_1 := i_nle c_1
      refine wp_bd2 (sf_X7_isBent hN h_0 h_2 h_4 h_5 h_6 (by omega)) (fun r_7 w_8 q_2 => ?_)
      refine wp_if (fun c_3 => ?_) (fun c_3 => ?_)
      ·
        refine wp_of (uf_X7_howManyBent_33 _ _ _ _ _ _ _ _ _ _) ?_
        have n_4 : (1 : Int32).toInt = 1 := by decide
        refine wp_nm (fun y_12 h_y_12 => ?_)
        first | have e_5 := i_addE h_y_12.symm (by omega) (by omega) | obtain ⟨k_5, e_5, e1_5, e2_5⟩ := i_addY h_y_12.symm
        exact ih _ _ _ _ _ _ _ _ h_0 h_1 q_2 h_3 h_4 h_5 (by omega) h_7 (by omega)
      ·
        refine wp_nm (fun y_11 _ => ?_)
        refine wp_of (uf_X7_howManyBent_33 _ _ _ _ _ _ _ _ _ _) ?_
        have n_7 : (1 : Int32).toInt = 1 := by decide
        refine wp_nm (fun y_12__6 h_y_12__6 => ?_)
        first | have e_8 := i_addE h_y_12__6.symm (by omega) (by omega) | obtain ⟨k_8, e_8, e1_8, e2_8⟩ := i_addY h_y_12__6.symm
        exact ih _ _ _ _ _ _ _ _ h_0 h_1 q_2 h_3 h_4 h_5 (by omega) h_7 (by omega)

theorem uf_X7_howManyBent (N : Nat) (x1 : Int32) (x2 : Int32) (v_list : List Int32) (v_found : List Int32) (v_at : List Int32) : fX7_howManyBent N x1 x2 v_list v_found v_at = mm_bd4 (fX7_howMany N x1 v_list v_found v_at) (fun (r_1 : Int32) (w_2 : List Int32) (w_3 : List Int32) (w_4 : List Int32) =>
    fX7_howManyBent_12 N N x1 x2 (0 : Int32) r_1 (0 : Int32) w_2 w_3 w_4) := rfl

set_option maxHeartbeats 4000000 in
set_option maxRecDepth 20000 in
theorem sf_X7_howManyBent {N : Nat} (hN : 700 ≤ N) {x1 : Int32} {x2 : Int32} {v_list : List Int32} {v_found : List Int32} {v_at : List Int32} (h_0 : v_list.length = 680) (h_1 : v_found.length = 8) (h_2 : v_at.length = 7) (h_3 : fnd v_found) (h_4 : 2 ≤ x1.toInt) (h_5 : x1.toInt ≤ 7) : wp (fX7_howManyBent N x1 x2 v_list v_found v_at) (cu4 (fun (r : Int32) (wv_list : List Int32) (wv_found : List Int32) (wv_at : List Int32) => wv_list.length = 680 ∧ wv_found.length = 8 ∧ wv_at.length = 7 ∧ fnd wv_found)) := by
  have st := st_b (i := x1) (by omega) (by omega)
  refine wp_of (uf_X7_howManyBent _ _ _ _ _ _) ?_
  refine wp_bd4 (sf_X7_howMany hN h_0 h_1 h_2 h_3 h_4 h_5) (fun r_1 w_2 w_3 w_4 ⟨q_1, q_2, q_3, q_4, q_5, q_6⟩ => ?_)
  have n_7 : (0 : Int32).toInt = 0 := by decide
  exact sf_X7_howManyBent_12 hN _ _ _ _ _ _ _ _ _ q_3 q_4 q_5 q_6 h_4 h_5 (by omega) q_2 (by omega)

theorem uf_X7_firstBent_9 (N : Nat) (n : Nat) (x1 : Int32) (x2 : Int32) (x3 : Int32) (x4 : Int32) (v_list : List Int32) (v_found : List Int32) (v_at : List Int32) : fX7_firstBent_9 N (n + 1) x1 x2 x3 x4 v_list v_found v_at = 
    if x3 ≤ x4 then
    (some ((-1 : Int32), v_list, v_found, v_at))
    else (mm_bd2 (fX7_isBent N x1 x4 x2 v_list v_at) (fun (r_7 : Bool) (w_8 : List Int32) =>
    if r_7 = false then
    (mm_nm (x4 + (1 : Int32)) (fun (y_11 : Int32) =>
    fX7_firstBent_9 N n x1 x2 x3 y_11 v_list v_found w_8))
    else (mm_ck (mm_inb x1 mm_START.length) (mm_ck (mm_inb ((mm_ig mm_START x1) + x4) v_list.length) (some ((mm_ig v_list ((mm_ig mm_START x1) + x4)), v_list, v_found, w_8)))))) := rfl

set_option maxHeartbeats 4000000 in
set_option maxRecDepth 20000 in
theorem sf_X7_firstBent_9 {N : Nat} (hN : 700 ≤ N)  : ∀ (n : Nat) (x1 : Int32) (x2 : Int32) (x3 : Int32) (x4 : Int32) (v_list : List Int32) (v_found : List Int32) (v_at : List Int32), v_list.length = 680 → v_found.length = 8 → v_at.length = 7 → fnd v_found → 2 ≤ x1.toInt → x1.toInt ≤ 7 → 0 ≤ x4.toInt → (mm_ig mm_START x1).toInt + x3.toInt ≤ 680 → (x3.toInt - x4.toInt).toNat < n → wp (fX7_firstBent_9 N n x1 x2 x3 x4 v_list v_found v_at) (cu4 (fun (r : Int32) (wv_list : List Int32) (wv_found : List Int32) (wv_at : List Int32) => wv_list.length = 680 ∧ wv_found.length = 8 ∧ wv_at.length = 7 ∧ fnd wv_found)) := by
  intro n
  induction n with
  | zero =>
    intro x1 x2 x3 x4 v_list v_found v_at h_0 h_1 h_2 h_3 h_4 h_5 h_6 h_7 hm
    exact absurd hm (by omega)
  | succ n ih =>
    intro x1 x2 x3 x4 v_list v_found v_at h_0 h_1 h_2 h_3 h_4 h_5 h_6 h_7 hm
    have st := st_b (i := x1) (by omega) (by omega)
    refine wp_of (uf_X7_firstBent_9 _ _ _ _ _ _ _ _ _) ?_
    refine wp_if (fun c_1 => ?_) (fun c_1 => ?_)
    ·
      have dc_1 := i_le c_1
      exact wp_so4 ⟨h_0, h_1, h_2, h_3⟩
    ·
      have dc_1 := i_nle c_1
      refine wp_bd2 (sf_X7_isBent hN h_0 h_2 h_4 h_5 h_6 (by omega)) (fun r_7 w_8 q_2 => ?_)
      refine wp_if (fun c_3 => ?_) (fun c_3 => ?_)
      ·
        have n_4 : (1 : Int32).toInt = 1 := by decide
        refine wp_nm (fun y_11 h_y_11 => ?_)
        first | have e_5 := i_addE h_y_11.symm (by omega) (by omega) | obtain ⟨k_5, e_5, e1_5, e2_5⟩ := i_addY h_y_11.symm
        exact ih _ _ _ _ _ _ _ h_0 h_1 q_2 h_3 h_4 h_5 (by omega) h_7 (by omega)
      ·
        have nl_6 : mm_START.length = 9 := rfl
        refine wp_ck (i_inb (by omega) (by omega)) ?_
        obtain ⟨e_7, e1_7⟩ := zn_get zn_start (i := x1) (by omega) (by omega) (by omega) (by omega)
        generalize hz_z : ((mm_ig mm_START x1) + x4) = z
        first | have e_8 := i_addE hz_z (by omega) (by omega) | obtain ⟨k_8, e_8, e1_8, e2_8⟩ := i_addY hz_z
        refine wp_ck (i_inb (by omega) (by omega)) ?_
        exact wp_so4 ⟨h_0, h_1, q_2, h_3⟩

theorem uf_X7_firstBent (N : Nat) (x1 : Int32) (x2 : Int32) (v_list : List Int32) (v_found : List Int32) (v_at : List Int32) : fX7_firstBent N x1 x2 v_list v_found v_at = mm_bd4 (fX7_howMany N x1 v_list v_found v_at) (fun (r_1 : Int32) (w_2 : List Int32) (w_3 : List Int32) (w_4 : List Int32) =>
    fX7_firstBent_9 N N x1 x2 r_1 (0 : Int32) w_2 w_3 w_4) := rfl

set_option maxHeartbeats 4000000 in
set_option maxRecDepth 20000 in
theorem sf_X7_firstBent {N : Nat} (hN : 700 ≤ N) {x1 : Int32} {x2 : Int32} {v_list : List Int32} {v_found : List Int32} {v_at : List Int32} (h_0 : v_list.length = 680) (h_1 : v_found.length = 8) (h_2 : v_at.length = 7) (h_3 : fnd v_found) (h_4 : 2 ≤ x1.toInt) (h_5 : x1.toInt ≤ 7) : wp (fX7_firstBent N x1 x2 v_list v_found v_at) (cu4 (fun (r : Int32) (wv_list : List Int32) (wv_found : List Int32) (wv_at : List Int32) => wv_list.length = 680 ∧ wv_found.length = 8 ∧ wv_at.length = 7 ∧ fnd wv_found)) := by
  have st := st_b (i := x1) (by omega) (by omega)
  refine wp_of (uf_X7_firstBent _ _ _ _ _ _) ?_
  refine wp_bd4 (sf_X7_howMany hN h_0 h_1 h_2 h_3 h_4 h_5) (fun r_1 w_2 w_3 w_4 ⟨q_1, q_2, q_3, q_4, q_5, q_6⟩ => ?_)
  have n_7 : (0 : Int32).toInt = 0 := by decide
  exact sf_X7_firstBent_9 hN _ _ _ _ _ _ _ _ q_3 q_4 q_5 q_6 h_4 h_5 (by omega) q_2 (by omega)

theorem uf_X7_howManyTopped_12 (N : Nat) (n : Nat) (x1 : Int32) (x2 : Int32) (x3 : Int32) (x4 : Int32) (x5 : Int32) (v_list : List Int32) (v_found : List Int32) (v_at : List Int32) : fX7_howManyTopped_12 N (n + 1) x1 x2 x3 x4 x5 v_list v_found v_at = 
    if x4 ≤ x5 then
    (some (x3, v_list, v_found, v_at))
    else (mm_ck (mm_inb x1 mm_START.length) (mm_ck (mm_inb ((mm_ig mm_START x1) + x5) v_list.length) (mm_ck (mm_nz (10 : Int32)) (if (mm_rem (mm_ig v_list ((mm_ig mm_START x1) + x5)) (10 : Int32)) = (x2 + (1 : Int32)) then
    (mm_nm (x3 + (1 : Int32)) (fun (y_11 : Int32) =>
    fX7_howManyTopped_44 N (fX7_howManyTopped_12 N n) x1 x2 y_11 x4 x5 v_list v_found v_at))
    else (fX7_howManyTopped_44 N (fX7_howManyTopped_12 N n) x1 x2 x3 x4 x5 v_list v_found v_at))))) := rfl

theorem uf_X7_howManyTopped_44 (N : Nat) (k_12 : Int32 → Int32 → Int32 → Int32 → Int32 → List Int32 → List Int32 → List Int32 → Option (Int32 × List Int32 × List Int32 × List Int32)) (x1 : Int32) (x2 : Int32) (x3 : Int32) (x4 : Int32) (x5 : Int32) (v_list : List Int32) (v_found : List Int32) (v_at : List Int32) : fX7_howManyTopped_44 N k_12 x1 x2 x3 x4 x5 v_list v_found v_at = mm_nm (x5 + (1 : Int32)) (fun (y_12 : Int32) =>
    k_12 x1 x2 x3 x4 y_12 v_list v_found v_at) := rfl

set_option maxHeartbeats 4000000 in
set_option maxRecDepth 20000 in
theorem sf_X7_howManyTopped_12 {N : Nat} (hN : 700 ≤ N)  : ∀ (n : Nat) (x1 : Int32) (x2 : Int32) (x3 : Int32) (x4 : Int32) (x5 : Int32) (v_list : List Int32) (v_found : List Int32) (v_at : List Int32), v_list.length = 680 → v_found.length = 8 → v_at.length = 7 → fnd v_found → 2 ≤ x1.toInt → x1.toInt ≤ 7 → 0 ≤ x5.toInt → (mm_ig mm_START x1).toInt + x4.toInt ≤ 680 → (x4.toInt - x5.toInt).toNat < n → wp (fX7_howManyTopped_12 N n x1 x2 x3 x4 x5 v_list v_found v_at) (cu4 (fun (r : Int32) (wv_list : List Int32) (wv_found : List Int32) (wv_at : List Int32) => wv_list.length = 680 ∧ wv_found.length = 8 ∧ wv_at.length = 7 ∧ fnd wv_found)) := by
  intro n
  induction n with
  | zero =>
    intro x1 x2 x3 x4 x5 v_list v_found v_at h_0 h_1 h_2 h_3 h_4 h_5 h_6 h_7 hm
    exact absurd hm (by omega)
  | succ n ih =>
    intro x1 x2 x3 x4 x5 v_list v_found v_at h_0 h_1 h_2 h_3 h_4 h_5 h_6 h_7 hm
    have st := st_b (i := x1) (by omega) (by omega)
    refine wp_of (uf_X7_howManyTopped_12 _ _ _ _ _ _ _ _ _ _) ?_
    refine wp_if (fun c_1 => ?_) (fun c_1 => ?_)
    ·
      have dc_1 := i_le c_1
      exact wp_so4 ⟨h_0, h_1, h_2, h_3⟩
    ·
      have dc_1 := i_nle c_1
      have nl_2 : mm_START.length = 9 := rfl
      refine wp_ck (i_inb (by omega) (by omega)) ?_
      obtain ⟨e_3, e1_3⟩ := zn_get zn_start (i := x1) (by omega) (by omega) (by omega) (by omega)
      generalize hz_z : ((mm_ig mm_START x1) + x5) = z
      first | have e_4 := i_addE hz_z (by omega) (by omega) | obtain ⟨k_4, e_4, e1_4, e2_4⟩ := i_addY hz_z
      refine wp_ck (i_inb (by omega) (by omega)) ?_
      have n_5 : (10 : Int32).toInt = 10 := by decide
      refine wp_ck (i_nz (by omega)) ?_
      generalize hz_z__7 : (mm_rem (mm_ig v_list z) (10 : Int32)) = z__7
      have e_8 := i_remL (c := 10) (by decide) (by decide) hz_z__7
      have n_9 : (1 : Int32).toInt = 1 := by decide
      generalize hz_z__10 : (x2 + (1 : Int32)) = z__10
      first | have e_11 := i_addE hz_z__10 (by omega) (by omega) | obtain ⟨k_11, e_11, e1_11, e2_11⟩ := i_addY hz_z__10
      refine wp_if (fun c_6 => ?_) (fun c_6 => ?_)
      ·
        have dc_6 := i_eq c_6
        refine wp_nm (fun y_11 _ => ?_)
        refine wp_of (uf_X7_howManyTopped_44 _ _ _ _ _ _ _ _ _ _) ?_
        refine wp_nm (fun y_12 h_y_12 => ?_)
        first | have e_12 := i_addE h_y_12.symm (by omega) (by omega) | obtain ⟨k_12, e_12, e1_12, e2_12⟩ := i_addY h_y_12.symm
        exact ih _ _ _ _ _ _ _ _ h_0 h_1 h_2 h_3 h_4 h_5 (by omega) h_7 (by omega)
      ·
        have dc_6 := i_ne c_6
        refine wp_of (uf_X7_howManyTopped_44 _ _ _ _ _ _ _ _ _ _) ?_
        refine wp_nm (fun y_12__13 h_y_12__13 => ?_)
        first | have e_14 := i_addE h_y_12__13.symm (by omega) (by omega) | obtain ⟨k_14, e_14, e1_14, e2_14⟩ := i_addY h_y_12__13.symm
        exact ih _ _ _ _ _ _ _ _ h_0 h_1 h_2 h_3 h_4 h_5 (by omega) h_7 (by omega)

theorem uf_X7_howManyTopped (N : Nat) (x1 : Int32) (x2 : Int32) (v_list : List Int32) (v_found : List Int32) (v_at : List Int32) : fX7_howManyTopped N x1 x2 v_list v_found v_at = mm_bd4 (fX7_howMany N x1 v_list v_found v_at) (fun (r_1 : Int32) (w_2 : List Int32) (w_3 : List Int32) (w_4 : List Int32) =>
    fX7_howManyTopped_12 N N x1 x2 (0 : Int32) r_1 (0 : Int32) w_2 w_3 w_4) := rfl

set_option maxHeartbeats 4000000 in
set_option maxRecDepth 20000 in
theorem sf_X7_howManyTopped {N : Nat} (hN : 700 ≤ N) {x1 : Int32} {x2 : Int32} {v_list : List Int32} {v_found : List Int32} {v_at : List Int32} (h_0 : v_list.length = 680) (h_1 : v_found.length = 8) (h_2 : v_at.length = 7) (h_3 : fnd v_found) (h_4 : 2 ≤ x1.toInt) (h_5 : x1.toInt ≤ 7) : wp (fX7_howManyTopped N x1 x2 v_list v_found v_at) (cu4 (fun (r : Int32) (wv_list : List Int32) (wv_found : List Int32) (wv_at : List Int32) => wv_list.length = 680 ∧ wv_found.length = 8 ∧ wv_at.length = 7 ∧ fnd wv_found)) := by
  have st := st_b (i := x1) (by omega) (by omega)
  refine wp_of (uf_X7_howManyTopped _ _ _ _ _ _) ?_
  refine wp_bd4 (sf_X7_howMany hN h_0 h_1 h_2 h_3 h_4 h_5) (fun r_1 w_2 w_3 w_4 ⟨q_1, q_2, q_3, q_4, q_5, q_6⟩ => ?_)
  have n_7 : (0 : Int32).toInt = 0 := by decide
  exact sf_X7_howManyTopped_12 hN _ _ _ _ _ _ _ _ _ q_3 q_4 q_5 q_6 h_4 h_5 (by omega) q_2 (by omega)
end
section
/-! safe -/
theorem uf_X5_fields (N : Nat) (v_rows : Int32) (v_cols : Int32) : fX5_fields N v_rows v_cols = some ((v_rows * v_cols)) := rfl


theorem sf_X5_fields {N : Nat} (hN : 700 ≤ N) {v_rows v_cols : Int32} (h_0 : 1 ≤ v_rows.toInt) (h_1 : v_rows.toInt ≤ 4) (h_2 : 1 ≤ v_cols.toInt) (h_3 : v_cols.toInt ≤ 8) : wp (fX5_fields N v_rows v_cols) (fun (r : Int32) => r.toInt = v_rows.toInt * v_cols.toInt ∧ 1 ≤ r.toInt ∧ r.toInt ≤ 32) := by
  rw [uf_X5_fields]
  have h := i_fl h_0 h_1 h_2 h_3
  exact wp_so1 ⟨h.1, by rw [h.1]; exact h.2.1, by rw [h.1]; exact h.2.2⟩

theorem uf_X5_forgetLed (N : Nat) (v_folds : Int32) (v_wrong : Int32) (v_more : Int32) : fX5_forgetLed N v_folds v_wrong v_more = some ((0 : Int32), (0 : Int32), (0 : Int32)) := rfl

set_option maxHeartbeats 4000000 in
set_option maxRecDepth 20000 in
theorem sf_X5_forgetLed {N : Nat} (hN : 700 ≤ N) {v_folds : Int32} {v_wrong : Int32} {v_more : Int32}  : wp (fX5_forgetLed N v_folds v_wrong v_more) (cu3 (fun (wv_folds : Int32) (wv_wrong : Int32) (wv_more : Int32) => True)) := by
  refine wp_of (uf_X5_forgetLed _ _ _ _) ?_
  exact wp_so3 trivial

theorem uf_X5_layOut_30 (N : Nat) (k_20 : Int32 → Int32 → Int32 → Int32 → Int32 → Int32 → List Int32 → List Int32 → List Int32 → List Int32 → Option (Int32 × Int32 × List Int32 × List Int32 × List Int32 × List Int32)) (n : Nat) (x1 : Int32) (x2 : Int32) (x3 : Int32) (v_rows : Int32) (v_cols : Int32) (v_high : Int32) (v_wide : Int32) (v_rowOf : List Int32) (v_colOf : List Int32) (v_below : List Int32) (v_face : List Int32) : fX5_layOut_30 N k_20 (n + 1) x1 x2 x3 v_rows v_cols v_high v_wide v_rowOf v_colOf v_below v_face = 
    if v_cols ≤ x3 then
    (mm_nm (x2 + (1 : Int32)) (fun (y_3 : Int32) =>
    k_20 x1 y_3 v_rows v_cols v_high v_wide v_rowOf v_colOf v_below v_face))
    else (mm_ck (mm_inb x1 v_rowOf.length) (mm_nm (mm_is v_rowOf x1 x2) (fun (l_5 : List Int32) =>
    mm_ck (mm_inb x1 v_colOf.length) (mm_nm (mm_is v_colOf x1 x3) (fun (l_7 : List Int32) =>
    mm_ck (mm_inb x1 v_below.length) (mm_nm (mm_is v_below x1 (0 : Int32)) (fun (l_9 : List Int32) =>
    mm_ck (mm_inb x1 v_face.length) (mm_nm (mm_is v_face x1 (0 : Int32)) (fun (l_11 : List Int32) =>
    mm_nm (x1 + (1 : Int32)) (fun (y_12 : Int32) =>
    mm_nm (x3 + (1 : Int32)) (fun (y_13 : Int32) =>
    fX5_layOut_30 N k_20 n y_12 x2 y_13 v_rows v_cols v_high v_wide l_5 l_7 l_9 l_11))))))))))) := rfl

set_option maxHeartbeats 4000000 in
set_option maxRecDepth 20000 in
theorem sf_X5_layOut_30 {N : Nat} (hN : 700 ≤ N) {B : Nat} {k_20 : Int32 → Int32 → Int32 → Int32 → Int32 → Int32 → List Int32 → List Int32 → List Int32 → List Int32 → Option (Int32 × Int32 × List Int32 × List Int32 × List Int32 × List Int32)} (hk_20 : ∀ (x1 : Int32) (x2 : Int32) (v_rows : Int32) (v_cols : Int32) (v_high : Int32) (v_wide : Int32) (v_rowOf : List Int32) (v_colOf : List Int32) (v_below : List Int32) (v_face : List Int32), 1 ≤ v_rows.toInt → v_rows.toInt ≤ 4 → 1 ≤ v_cols.toInt → v_cols.toInt ≤ 8 → 1 ≤ v_high.toInt → v_high.toInt ≤ 4 → 1 ≤ v_wide.toInt → v_wide.toInt ≤ 8 → v_rowOf.length = 32 → v_colOf.length = 32 → v_below.length = 32 → v_face.length = 32 → zn v_rowOf 0 x1.toInt 0 v_rows.toInt → zn v_colOf 0 x1.toInt 0 v_cols.toInt → v_high.toInt = v_rows.toInt → v_wide.toInt = v_cols.toInt → pm x1.toInt x2.toInt v_cols.toInt → 0 ≤ x2.toInt → x2.toInt ≤ v_rows.toInt → (v_rows.toInt - x2.toInt).toNat < B → wp (k_20 x1 x2 v_rows v_cols v_high v_wide v_rowOf v_colOf v_below v_face) (cu6 (fun (wv_high : Int32) (wv_wide : Int32) (wv_rowOf : List Int32) (wv_colOf : List Int32) (wv_below : List Int32) (wv_face : List Int32) => 1 ≤ wv_high.toInt ∧ wv_high.toInt ≤ 4 ∧ 1 ≤ wv_wide.toInt ∧ wv_wide.toInt ≤ 8 ∧ wv_rowOf.length = 32 ∧ wv_colOf.length = 32 ∧ wv_below.length = 32 ∧ wv_face.length = 32 ∧ zn wv_rowOf 0 (v_rows.toInt * v_cols.toInt) 0 wv_high.toInt ∧ zn wv_colOf 0 (v_rows.toInt * v_cols.toInt) 0 wv_wide.toInt))) : ∀ (n : Nat) (x1 : Int32) (x2 : Int32) (x3 : Int32) (v_rows : Int32) (v_cols : Int32) (v_high : Int32) (v_wide : Int32) (v_rowOf : List Int32) (v_colOf : List Int32) (v_below : List Int32) (v_face : List Int32), 1 ≤ v_rows.toInt → v_rows.toInt ≤ 4 → 1 ≤ v_cols.toInt → v_cols.toInt ≤ 8 → 1 ≤ v_high.toInt → v_high.toInt ≤ 4 → 1 ≤ v_wide.toInt → v_wide.toInt ≤ 8 → v_rowOf.length = 32 → v_colOf.length = 32 → v_below.length = 32 → v_face.length = 32 → zn v_rowOf 0 x1.toInt 0 v_rows.toInt → zn v_colOf 0 x1.toInt 0 v_cols.toInt → v_high.toInt = v_rows.toInt → v_wide.toInt = v_cols.toInt → pm (x1.toInt - x3.toInt) x2.toInt v_cols.toInt → 0 ≤ x2.toInt → x2.toInt < v_rows.toInt → 0 ≤ x3.toInt → x3.toInt ≤ v_cols.toInt → (v_rows.toInt - x2.toInt).toNat < B + 1 → (v_cols.toInt - x3.toInt).toNat < n → wp (fX5_layOut_30 N k_20 n x1 x2 x3 v_rows v_cols v_high v_wide v_rowOf v_colOf v_below v_face) (cu6 (fun (wv_high : Int32) (wv_wide : Int32) (wv_rowOf : List Int32) (wv_colOf : List Int32) (wv_below : List Int32) (wv_face : List Int32) => 1 ≤ wv_high.toInt ∧ wv_high.toInt ≤ 4 ∧ 1 ≤ wv_wide.toInt ∧ wv_wide.toInt ≤ 8 ∧ wv_rowOf.length = 32 ∧ wv_colOf.length = 32 ∧ wv_below.length = 32 ∧ wv_face.length = 32 ∧ zn wv_rowOf 0 (v_rows.toInt * v_cols.toInt) 0 wv_high.toInt ∧ zn wv_colOf 0 (v_rows.toInt * v_cols.toInt) 0 wv_wide.toInt)) := by
  intro n
  induction n with
  | zero =>
    intro x1 x2 x3 v_rows v_cols v_high v_wide v_rowOf v_colOf v_below v_face h_0 h_1 h_2 h_3 h_4 h_5 h_6 h_7 h_8 h_9 h_10 h_11 h_12 h_13 h_14 h_15 h_16 h_17 h_18 h_19 h_20 h_21 hm
    exact absurd hm (by omega)
  | succ n ih =>
    intro x1 x2 x3 v_rows v_cols v_high v_wide v_rowOf v_colOf v_below v_face h_0 h_1 h_2 h_3 h_4 h_5 h_6 h_7 h_8 h_9 h_10 h_11 h_12 h_13 h_14 h_15 h_16 h_17 h_18 h_19 h_20 h_21 hm
    have m3 := (i_fl (a := v_rows) (b := v_cols) (by omega) (by omega) (by omega) (by omega)).2
    have m4 := pm_bd (r := v_rows.toInt) (show pm (x1.toInt - x3.toInt) x2.toInt v_cols.toInt by assumption) (by omega) (by omega) (by omega)
    refine wp_of (uf_X5_layOut_30 _ _ _ _ _ _ _ _ _ _ _ _ _ _) ?_
    refine wp_if (fun c_1 => ?_) (fun c_1 => ?_)
    ·
      have dc_1 := i_le c_1
      have n_2 : (1 : Int32).toInt = 1 := by decide
      refine wp_nm (fun y_3 h_y_3 => ?_)
      have e_3 := i_addE h_y_3.symm (by omega) (by omega)
      exact hk_20 _ _ _ _ _ _ _ _ _ _ h_0 h_1 h_2 h_3 h_4 h_5 h_6 h_7 h_8 h_9 h_10 h_11 h_12 h_13 h_14 h_15 (by first | exact pm_0 (by omega) (by omega) | exact pm_eq (by assumption) (by omega) (by omega) | exact pm_step (by assumption) (by omega) (by omega)) (by omega) (by omega) (by omega)
    ·
      have dc_1 := i_nle c_1
      refine wp_ck (i_inb (by omega) (by omega)) ?_
      refine wp_nm (fun l_5 h_l_5 => ?_)
      have nl_l_5 : l_5.length = 32 := by rw [h_l_5, is_len]; assumption
      refine wp_ck (i_inb (by omega) (by omega)) ?_
      refine wp_nm (fun l_7 h_l_7 => ?_)
      have nl_l_7 : l_7.length = 32 := by rw [h_l_7, is_len]; assumption
      refine wp_ck (i_inb (by omega) (by omega)) ?_
      have n_4 : (0 : Int32).toInt = 0 := by decide
      refine wp_nm (fun l_9 h_l_9 => ?_)
      have nl_l_9 : l_9.length = 32 := by rw [h_l_9, is_len]; assumption
      refine wp_ck (i_inb (by omega) (by omega)) ?_
      refine wp_nm (fun l_11 h_l_11 => ?_)
      have nl_l_11 : l_11.length = 32 := by rw [h_l_11, is_len]; assumption
      have n_5 : (1 : Int32).toInt = 1 := by decide
      refine wp_nm (fun y_12 h_y_12 => ?_)
      first | have e_6 := i_addE h_y_12.symm (by omega) (by omega) | obtain ⟨k_6, e_6, e1_6, e2_6⟩ := i_addY h_y_12.symm
      refine wp_nm (fun y_13 h_y_13 => ?_)
      have e_7 := i_addE h_y_13.symm (by omega) (by omega)
      exact ih _ _ _ _ _ _ _ _ _ _ _ h_0 h_1 h_2 h_3 h_4 h_5 h_6 h_7 nl_l_5 nl_l_7 nl_l_9 nl_l_11 (by first | assumption | exact zn_nil (by omega) | (rw [h_l_5]; first | exact zn_out h_12 (by omega) (by omega) | exact zn_in h_12 (by omega) (by omega) (by omega) | exact zn_ext h_12 (by omega) (by omega) (by omega) (by omega) (by omega) | exact zn_out (zn_sub h_12 (by omega) (by omega) (by omega) (by omega)) (by omega) (by omega)) | (exfalso; omega)) (by first | assumption | exact zn_nil (by omega) | (rw [h_l_7]; first | exact zn_out h_13 (by omega) (by omega) | exact zn_in h_13 (by omega) (by omega) (by omega) | exact zn_ext h_13 (by omega) (by omega) (by omega) (by omega) (by omega) | exact zn_out (zn_sub h_13 (by omega) (by omega) (by omega) (by omega)) (by omega) (by omega)) | (exfalso; omega)) h_14 h_15 (by first | exact pm_0 (by omega) (by omega) | exact pm_eq (by assumption) (by omega) (by omega) | exact pm_step (by assumption) (by omega) (by omega)) h_17 h_18 (by omega) (by omega) h_21 (by omega)

theorem uf_X5_layOut_20 (N : Nat) (n : Nat) (x1 : Int32) (x2 : Int32) (v_rows : Int32) (v_cols : Int32) (v_high : Int32) (v_wide : Int32) (v_rowOf : List Int32) (v_colOf : List Int32) (v_below : List Int32) (v_face : List Int32) : fX5_layOut_20 N (n + 1) x1 x2 v_rows v_cols v_high v_wide v_rowOf v_colOf v_below v_face = 
    if v_rows ≤ x2 then
    (some (v_high, v_wide, v_rowOf, v_colOf, v_below, v_face))
    else (fX5_layOut_30 N (fX5_layOut_20 N n) N x1 x2 (0 : Int32) v_rows v_cols v_high v_wide v_rowOf v_colOf v_below v_face) := rfl

set_option maxHeartbeats 4000000 in
set_option maxRecDepth 20000 in
theorem sf_X5_layOut_20 {N : Nat} (hN : 700 ≤ N)  : ∀ (n : Nat) (x1 : Int32) (x2 : Int32) (v_rows : Int32) (v_cols : Int32) (v_high : Int32) (v_wide : Int32) (v_rowOf : List Int32) (v_colOf : List Int32) (v_below : List Int32) (v_face : List Int32), 1 ≤ v_rows.toInt → v_rows.toInt ≤ 4 → 1 ≤ v_cols.toInt → v_cols.toInt ≤ 8 → 1 ≤ v_high.toInt → v_high.toInt ≤ 4 → 1 ≤ v_wide.toInt → v_wide.toInt ≤ 8 → v_rowOf.length = 32 → v_colOf.length = 32 → v_below.length = 32 → v_face.length = 32 → zn v_rowOf 0 x1.toInt 0 v_rows.toInt → zn v_colOf 0 x1.toInt 0 v_cols.toInt → v_high.toInt = v_rows.toInt → v_wide.toInt = v_cols.toInt → pm x1.toInt x2.toInt v_cols.toInt → 0 ≤ x2.toInt → x2.toInt ≤ v_rows.toInt → (v_rows.toInt - x2.toInt).toNat < n → wp (fX5_layOut_20 N n x1 x2 v_rows v_cols v_high v_wide v_rowOf v_colOf v_below v_face) (cu6 (fun (wv_high : Int32) (wv_wide : Int32) (wv_rowOf : List Int32) (wv_colOf : List Int32) (wv_below : List Int32) (wv_face : List Int32) => 1 ≤ wv_high.toInt ∧ wv_high.toInt ≤ 4 ∧ 1 ≤ wv_wide.toInt ∧ wv_wide.toInt ≤ 8 ∧ wv_rowOf.length = 32 ∧ wv_colOf.length = 32 ∧ wv_below.length = 32 ∧ wv_face.length = 32 ∧ zn wv_rowOf 0 (v_rows.toInt * v_cols.toInt) 0 wv_high.toInt ∧ zn wv_colOf 0 (v_rows.toInt * v_cols.toInt) 0 wv_wide.toInt)) := by
  intro n
  induction n with
  | zero =>
    intro x1 x2 v_rows v_cols v_high v_wide v_rowOf v_colOf v_below v_face h_0 h_1 h_2 h_3 h_4 h_5 h_6 h_7 h_8 h_9 h_10 h_11 h_12 h_13 h_14 h_15 h_16 h_17 h_18 hm
    exact absurd hm (by omega)
  | succ n ih =>
    intro x1 x2 v_rows v_cols v_high v_wide v_rowOf v_colOf v_below v_face h_0 h_1 h_2 h_3 h_4 h_5 h_6 h_7 h_8 h_9 h_10 h_11 h_12 h_13 h_14 h_15 h_16 h_17 h_18 hm
    have m3 := (i_fl (a := v_rows) (b := v_cols) (by omega) (by omega) (by omega) (by omega)).2
    have m4 : x2.toInt = v_rows.toInt → x1.toInt = v_rows.toInt * v_cols.toInt := fun e => pm_end (by assumption) e
    refine wp_of (uf_X5_layOut_20 _ _ _ _ _ _ _ _ _ _ _ _) ?_
    refine wp_if (fun c_1 => ?_) (fun c_1 => ?_)
    ·
      have dc_1 := i_le c_1
      exact wp_so6 ⟨h_4, h_5, h_6, h_7, h_8, h_9, h_10, h_11, (by first | assumption | exact zn_nil (by omega) | exact zn_sub h_12 (by omega) (by omega) (by omega) (by omega) | (exfalso; omega)), (by first | assumption | exact zn_nil (by omega) | exact zn_sub h_13 (by omega) (by omega) (by omega) (by omega) | (exfalso; omega))⟩
    ·
      have dc_1 := i_nle c_1
      have n_2 : (0 : Int32).toInt = 0 := by decide
      exact sf_X5_layOut_30 hN ih _ _ _ _ _ _ _ _ _ _ _ _ h_0 h_1 h_2 h_3 h_4 h_5 h_6 h_7 h_8 h_9 h_10 h_11 h_12 h_13 h_14 h_15 (by first | exact pm_0 (by omega) (by omega) | exact pm_eq (by assumption) (by omega) (by omega) | exact pm_step (by assumption) (by omega) (by omega)) h_17 (by omega) (by omega) (by omega) (by omega) (by omega)

theorem uf_X5_layOut (N : Nat) (v_rows : Int32) (v_cols : Int32) (v_high : Int32) (v_wide : Int32) (v_rowOf : List Int32) (v_colOf : List Int32) (v_below : List Int32) (v_face : List Int32) : fX5_layOut N v_rows v_cols v_high v_wide v_rowOf v_colOf v_below v_face = fX5_layOut_20 N N (0 : Int32) (0 : Int32) v_rows v_cols v_rows v_cols v_rowOf v_colOf v_below v_face := rfl

set_option maxHeartbeats 4000000 in
set_option maxRecDepth 20000 in
theorem sf_X5_layOut {N : Nat} (hN : 700 ≤ N) {v_rows : Int32} {v_cols : Int32} {v_high : Int32} {v_wide : Int32} {v_rowOf : List Int32} {v_colOf : List Int32} {v_below : List Int32} {v_face : List Int32} (h_0 : 1 ≤ v_rows.toInt) (h_1 : v_rows.toInt ≤ 4) (h_2 : 1 ≤ v_cols.toInt) (h_3 : v_cols.toInt ≤ 8) (h_4 : 1 ≤ v_high.toInt) (h_5 : v_high.toInt ≤ 4) (h_6 : 1 ≤ v_wide.toInt) (h_7 : v_wide.toInt ≤ 8) (h_8 : v_rowOf.length = 32) (h_9 : v_colOf.length = 32) (h_10 : v_below.length = 32) (h_11 : v_face.length = 32) : wp (fX5_layOut N v_rows v_cols v_high v_wide v_rowOf v_colOf v_below v_face) (cu6 (fun (wv_high : Int32) (wv_wide : Int32) (wv_rowOf : List Int32) (wv_colOf : List Int32) (wv_below : List Int32) (wv_face : List Int32) => 1 ≤ wv_high.toInt ∧ wv_high.toInt ≤ 4 ∧ 1 ≤ wv_wide.toInt ∧ wv_wide.toInt ≤ 8 ∧ wv_rowOf.length = 32 ∧ wv_colOf.length = 32 ∧ wv_below.length = 32 ∧ wv_face.length = 32 ∧ zn wv_rowOf 0 (v_rows.toInt * v_cols.toInt) 0 wv_high.toInt ∧ zn wv_colOf 0 (v_rows.toInt * v_cols.toInt) 0 wv_wide.toInt)) := by
  refine wp_of (uf_X5_layOut _ _ _ _ _ _ _ _ _) ?_
  have n_1 : (0 : Int32).toInt = 0 := by decide
  exact sf_X5_layOut_20 hN _ _ _ _ _ _ _ _ _ _ _ h_0 h_1 h_2 h_3 h_0 h_1 h_2 h_3 h_8 h_9 h_10 h_11 (by first | assumption | exact zn_nil (by omega) | (exfalso; omega)) (by first | assumption | exact zn_nil (by omega) | (exfalso; omega)) (by omega) (by omega) (by first | exact pm_0 (by omega) (by omega) | exact pm_eq (by assumption) (by omega) (by omega) | exact pm_step (by assumption) (by omega) (by omega)) (by omega) (by omega) (by omega)

theorem uf_X5_renew (N : Nat) (x1 : Int32) (x2 : Int32) (v_rows : Int32) (v_cols : Int32) (v_high : Int32) (v_wide : Int32) (v_folds : Int32) (v_wrong : Int32) (v_more : Int32) (v_rowOf : List Int32) (v_colOf : List Int32) (v_below : List Int32) (v_face : List Int32) (v_worn : List Int32) (v_last : List Int32) : fX5_renew N x1 x2 v_rows v_cols v_high v_wide v_folds v_wrong v_more v_rowOf v_colOf v_below v_face v_worn v_last = mm_bd1 (fJ7_fill_53178 N (0 : Int32) v_worn) (fun (w_1 : List Int32) =>
    mm_bd1 (fJ7_fill_53178 N (0 : Int32) v_last) (fun (w_3 : List Int32) =>
    mm_bd3 (fX5_forgetLed N v_folds v_wrong v_more) (fun (w_5 : Int32) (w_6 : Int32) (w_7 : Int32) =>
    mm_bd6 (fX5_layOut N x1 x2 v_high v_wide v_rowOf v_colOf v_below v_face) (fun (w_9 : Int32) (w_10 : Int32) (w_11 : List Int32) (w_12 : List Int32) (w_13 : List Int32) (w_14 : List Int32) =>
    some (x1, x2, w_9, w_10, w_5, w_6, w_7, w_11, w_12, w_13, w_14, w_1, w_3))))) := rfl

set_option maxHeartbeats 4000000 in
set_option maxRecDepth 20000 in
theorem sf_X5_renew {N : Nat} (hN : 700 ≤ N) {x1 : Int32} {x2 : Int32} {v_rows : Int32} {v_cols : Int32} {v_high : Int32} {v_wide : Int32} {v_folds : Int32} {v_wrong : Int32} {v_more : Int32} {v_rowOf : List Int32} {v_colOf : List Int32} {v_below : List Int32} {v_face : List Int32} {v_worn : List Int32} {v_last : List Int32} (h_0 : 1 ≤ v_rows.toInt) (h_1 : v_rows.toInt ≤ 4) (h_2 : 1 ≤ v_cols.toInt) (h_3 : v_cols.toInt ≤ 8) (h_4 : 1 ≤ v_high.toInt) (h_5 : v_high.toInt ≤ 4) (h_6 : 1 ≤ v_wide.toInt) (h_7 : v_wide.toInt ≤ 8) (h_8 : v_rowOf.length = 32) (h_9 : v_colOf.length = 32) (h_10 : v_below.length = 32) (h_11 : v_face.length = 32) (h_12 : v_worn.length = 64) (h_13 : v_last.length = 64) (h_14 : 1 ≤ x1.toInt) (h_15 : x1.toInt ≤ 4) (h_16 : 1 ≤ x2.toInt) (h_17 : x2.toInt ≤ 8) : wp (fX5_renew N x1 x2 v_rows v_cols v_high v_wide v_folds v_wrong v_more v_rowOf v_colOf v_below v_face v_worn v_last) (cu13 (fun (wv_rows : Int32) (wv_cols : Int32) (wv_high : Int32) (wv_wide : Int32) (wv_folds : Int32) (wv_wrong : Int32) (wv_more : Int32) (wv_rowOf : List Int32) (wv_colOf : List Int32) (wv_below : List Int32) (wv_face : List Int32) (wv_worn : List Int32) (wv_last : List Int32) => 1 ≤ wv_rows.toInt ∧ wv_rows.toInt ≤ 4 ∧ 1 ≤ wv_cols.toInt ∧ wv_cols.toInt ≤ 8 ∧ 1 ≤ wv_high.toInt ∧ wv_high.toInt ≤ 4 ∧ 1 ≤ wv_wide.toInt ∧ wv_wide.toInt ≤ 8 ∧ wv_rowOf.length = 32 ∧ wv_colOf.length = 32 ∧ wv_below.length = 32 ∧ wv_face.length = 32 ∧ wv_worn.length = 64 ∧ wv_last.length = 64 ∧ zn wv_rowOf 0 (wv_rows.toInt * wv_cols.toInt) 0 wv_high.toInt ∧ zn wv_colOf 0 (wv_rows.toInt * wv_cols.toInt) 0 wv_wide.toInt)) := by
  refine wp_of (uf_X5_renew _ _ _ _ _ _ _ _ _ _ _ _ _ _ _ _) ?_
  refine wp_bd1 (sf_J7_fill_53178 hN (by first | assumption | omega | decide) (by first | assumption | omega | decide)) (fun w_1 q_1 => ?_)
  have nl_w_1 : w_1.length = 64 := by omega
  refine wp_bd1 (sf_J7_fill_53178 hN (by first | assumption | omega | decide) (by first | assumption | omega | decide)) (fun w_3 q_2 => ?_)
  have nl_w_3 : w_3.length = 64 := by omega
  refine wp_bd3 (sf_X5_forgetLed hN ) (fun w_5 w_6 w_7 _ => ?_)
  refine wp_bd6 (sf_X5_layOut hN h_14 h_15 h_16 h_17 h_4 h_5 h_6 h_7 h_8 h_9 h_10 h_11) (fun w_9 w_10 w_11 w_12 w_13 w_14 ⟨q_3, q_4, q_5, q_6, q_7, q_8, q_9, q_10, q_11, q_12⟩ => ?_)
  exact wp_so13 ⟨h_14, h_15, h_16, h_17, q_3, q_4, q_5, q_6, q_7, q_8, q_9, q_10, nl_w_1, nl_w_3, q_11, q_12⟩

theorem uf_X5_piles (N : Nat) (v_high : Int32) (v_wide : Int32) : fX5_piles N v_high v_wide = some ((v_high * v_wide)) := rfl

set_option maxHeartbeats 4000000 in
set_option maxRecDepth 20000 in
theorem sf_X5_piles {N : Nat} (hN : 700 ≤ N) {v_high : Int32} {v_wide : Int32} (h_0 : 1 ≤ v_high.toInt) (h_1 : v_high.toInt ≤ 4) (h_2 : 1 ≤ v_wide.toInt) (h_3 : v_wide.toInt ≤ 8) : wp (fX5_piles N v_high v_wide) (fun (r : Int32) => True) := by
  refine wp_of (uf_X5_piles _ _ _) ?_
  exact wp_so1 trivial

theorem uf_X5_hasField (N : Nat) (x1 : Int32) (v_rows : Int32) (v_cols : Int32) : fX5_hasField N x1 v_rows v_cols = if x1 < 0 then
    (some (false))
    else (mm_bd1 (fX5_fields N v_rows v_cols) (fun (r_2 : Int32) =>
    if r_2 ≤ x1 then
    (some (false))
    else (some (true)))) := rfl

set_option maxHeartbeats 4000000 in
set_option maxRecDepth 20000 in
theorem sf_X5_hasField {N : Nat} (hN : 700 ≤ N) {x1 : Int32} {v_rows : Int32} {v_cols : Int32} (h_0 : 1 ≤ v_rows.toInt) (h_1 : v_rows.toInt ≤ 4) (h_2 : 1 ≤ v_cols.toInt) (h_3 : v_cols.toInt ≤ 8) : wp (fX5_hasField N x1 v_rows v_cols) (fun (r : Bool) => ((r = true ∧ 0 ≤ x1.toInt ∧ x1.toInt < v_rows.toInt * v_cols.toInt) ∨ (r = false ∧ True))) := by
  refine wp_of (uf_X5_hasField _ _ _ _) ?_
  have n_2 : (0 : Int32).toInt = 0 := by decide
  refine wp_if (fun c_1 => ?_) (fun c_1 => ?_)
  ·
    have dc_1 := i_lt c_1
    exact wp_so1 (by first | exact Or.inl ⟨rfl, by first | trivial | omega⟩ | exact Or.inr ⟨rfl, by first | trivial | omega⟩)
  ·
    have dc_1 := i_nlt c_1
    refine wp_bd1 (sf_X5_fields hN h_0 h_1 h_2 h_3) (fun r_2 ⟨q_3, q_4, q_5⟩ => ?_)
    refine wp_if (fun c_6 => ?_) (fun c_6 => ?_)
    ·
      have dc_6 := i_le c_6
      exact wp_so1 (by first | exact Or.inl ⟨rfl, by first | trivial | omega⟩ | exact Or.inr ⟨rfl, by first | trivial | omega⟩)
    ·
      have dc_6 := i_nle c_6
      exact wp_so1 (by first | exact Or.inl ⟨rfl, by first | trivial | omega⟩ | exact Or.inr ⟨rfl, by first | trivial | omega⟩)

theorem uf_X5_hasPile (N : Nat) (x1 : Int32) (v_high : Int32) (v_wide : Int32) : fX5_hasPile N x1 v_high v_wide = if x1 < 0 then
    (some (false))
    else (mm_ck (mm_nz (10 : Int32)) (if v_high ≤ (x1 / (10 : Int32)) then
    (some (false))
    else (mm_ck (mm_nz (10 : Int32)) (if v_wide ≤ (mm_rem x1 (10 : Int32)) then
    (some (false))
    else (some (true)))))) := rfl

set_option maxHeartbeats 4000000 in
set_option maxRecDepth 20000 in
theorem sf_X5_hasPile {N : Nat} (hN : 700 ≤ N) {x1 : Int32} {v_high : Int32} {v_wide : Int32} (h_0 : 1 ≤ v_high.toInt) (h_1 : v_high.toInt ≤ 4) (h_2 : 1 ≤ v_wide.toInt) (h_3 : v_wide.toInt ≤ 8) : wp (fX5_hasPile N x1 v_high v_wide) (fun (r : Bool) => True) := by
  refine wp_of (uf_X5_hasPile _ _ _ _) ?_
  have n_2 : (0 : Int32).toInt = 0 := by decide
  refine wp_if (fun c_1 => ?_) (fun c_1 => ?_)
  ·
    have dc_1 := i_lt c_1
    exact wp_so1 trivial
  ·
    have dc_1 := i_nlt c_1
    have n_3 : (10 : Int32).toInt = 10 := by decide
    refine wp_ck (i_nz (by omega)) ?_
    generalize hz_z : (x1 / (10 : Int32)) = z
    have e_5 := i_divL (c := 10) (by decide) (by decide) hz_z
    refine wp_if (fun c_4 => ?_) (fun c_4 => ?_)
    ·
      have dc_4 := i_le c_4
      exact wp_so1 trivial
    ·
      have dc_4 := i_nle c_4
      refine wp_ck (i_nz (by omega)) ?_
      generalize hz_z__7 : (mm_rem x1 (10 : Int32)) = z__7
      have e_8 := i_remL (c := 10) (by decide) (by decide) hz_z__7
      refine wp_if (fun c_6 => ?_) (fun c_6 => ?_)
      ·
        have dc_6 := i_le c_6
        exact wp_so1 trivial
      ·
        have dc_6 := i_nle c_6
        exact wp_so1 trivial

theorem uf_X5_hasLine (N : Nat) (x1 : Int32) (x2 : Int32) (v_high : Int32) (v_wide : Int32) : fX5_hasLine N x1 x2 v_high v_wide = if x1 < (1 : Int32) then
    (some (false))
    else (mm_bd1 (fX5_span N x2 v_high v_wide) (fun (r_2 : Int32) =>
    if r_2 ≤ x1 then
    (some (false))
    else (some (true)))) := rfl

theorem uf_X5_span (N : Nat) (x1 : Int32) (v_high : Int32) (v_wide : Int32) : fX5_span N x1 v_high v_wide = if (4 : Int32) ≤ x1 then
    (some (v_high))
    else (some (v_wide)) := rfl

set_option maxHeartbeats 4000000 in
set_option maxRecDepth 20000 in
theorem sf_X5_hasLine {N : Nat} (hN : 700 ≤ N) {x1 : Int32} {x2 : Int32} {v_high : Int32} {v_wide : Int32} (h_0 : 1 ≤ v_high.toInt) (h_1 : v_high.toInt ≤ 4) (h_2 : 1 ≤ v_wide.toInt) (h_3 : v_wide.toInt ≤ 8) : wp (fX5_hasLine N x1 x2 v_high v_wide) (fun (r : Bool) => ((r = true ∧ 1 ≤ x1.toInt ∧ (x2.toInt < 4 → x1.toInt < v_wide.toInt) ∧ (4 ≤ x2.toInt → x1.toInt < v_high.toInt)) ∨ (r = false ∧ True))) := by
  refine wp_of (uf_X5_hasLine _ _ _ _ _) ?_
  have n_2 : (1 : Int32).toInt = 1 := by decide
  refine wp_if (fun c_1 => ?_) (fun c_1 => ?_)
  ·
    have dc_1 := i_lt c_1
    exact wp_so1 (by first | exact Or.inl ⟨rfl, by first | trivial | omega⟩ | exact Or.inr ⟨rfl, by first | trivial | omega⟩)
  ·
    have dc_1 := i_nlt c_1
    refine wp_in1 ?_
    refine wp_of (uf_X5_span _ _ _ _) ?_
    have n_4 : (4 : Int32).toInt = 4 := by decide
    refine wp_if (fun c_3 => ?_) (fun c_3 => ?_)
    ·
      have dc_3 := i_le c_3
      refine wp_so1 ?_
      show wp _ _
      refine wp_if (fun c_5 => ?_) (fun c_5 => ?_)
      ·
        have dc_5 := i_le c_5
        exact wp_so1 (by first | exact Or.inl ⟨rfl, by first | trivial | omega⟩ | exact Or.inr ⟨rfl, by first | trivial | omega⟩)
      ·
        have dc_5 := i_nle c_5
        exact wp_so1 (by first | exact Or.inl ⟨rfl, by first | trivial | omega⟩ | exact Or.inr ⟨rfl, by first | trivial | omega⟩)
    ·
      have dc_3 := i_nle c_3
      refine wp_so1 ?_
      show wp _ _
      refine wp_if (fun c_6 => ?_) (fun c_6 => ?_)
      ·
        have dc_6 := i_le c_6
        exact wp_so1 (by first | exact Or.inl ⟨rfl, by first | trivial | omega⟩ | exact Or.inr ⟨rfl, by first | trivial | omega⟩)
      ·
        have dc_6 := i_nle c_6
        exact wp_so1 (by first | exact Or.inl ⟨rfl, by first | trivial | omega⟩ | exact Or.inr ⟨rfl, by first | trivial | omega⟩)

theorem uf_X5_neighbour (N : Nat) (x1 : Int32) (x2 : Int32) (v_rows : Int32) (v_cols : Int32) : fX5_neighbour N x1 x2 v_rows v_cols = mm_bd1 (fX5_hasField N x1 v_rows v_cols) (fun (r_1 : Bool) =>
    if r_1 = false then
    (some ((-1 : Int32)))
    else (if x2 = 0 then
    (mm_ck (mm_nz v_cols) (if (v_cols - (1 : Int32)) ≤ (mm_rem x1 v_cols) then
    (some ((-1 : Int32)))
    else (some ((x1 + (1 : Int32))))))
    else (if x2 = (1 : Int32) then
    (mm_bd1 (fX5_fields N v_rows v_cols) (fun (r_6 : Int32) =>
    if r_6 ≤ (x1 + v_cols) then
    (some ((-1 : Int32)))
    else (some ((x1 + v_cols)))))
    else (some ((-1 : Int32)))))) := rfl

set_option maxHeartbeats 4000000 in
set_option maxRecDepth 20000 in
theorem sf_X5_neighbour {N : Nat} (hN : 700 ≤ N) {x1 : Int32} {x2 : Int32} {v_rows : Int32} {v_cols : Int32} (h_0 : 1 ≤ v_rows.toInt) (h_1 : v_rows.toInt ≤ 4) (h_2 : 1 ≤ v_cols.toInt) (h_3 : v_cols.toInt ≤ 8) : wp (fX5_neighbour N x1 x2 v_rows v_cols) (fun (r : Int32) => -1 ≤ r.toInt ∧ r.toInt < v_rows.toInt * v_cols.toInt ∧ ((0 ≤ r.toInt → 0 ≤ x1.toInt ∧ x1.toInt < v_rows.toInt * v_cols.toInt ∧ 0 ≤ x2.toInt ∧ x2.toInt ≤ 1))) := by
  have nb := nb_r x1.toInt v_rows.toInt v_cols.toInt
  have m3 := (i_fl (a := v_rows) (b := v_cols) (by omega) (by omega) (by omega) (by omega)).2
  refine wp_of (uf_X5_neighbour _ _ _ _ _) ?_
  refine wp_bd1 (sf_X5_hasField hN h_0 h_1 h_2 h_3) (fun r_1 q_1 => ?_)
  rcases q_1 with ⟨rfl, q_1⟩ | ⟨rfl, q_1⟩
  ·
    refine wp_ifn (by decide) ?_
    have n_3 : (0 : Int32).toInt = 0 := by decide
    refine wp_if (fun c_2 => ?_) (fun c_2 => ?_)
    ·
      have dc_2 := i_eq c_2
      refine wp_ck (i_nz (by omega)) ?_
      have n_5 : (1 : Int32).toInt = 1 := by decide
      generalize hz_z : (v_cols - (1 : Int32)) = z
      have e_6 := i_subE hz_z (by omega) (by omega)
      generalize hz_z__7 : (mm_rem x1 v_cols) = z__7
      have e_8 := i_remY hz_z__7 (by omega)
      refine wp_if (fun c_4 => ?_) (fun c_4 => ?_)
      ·
        have dc_4 := i_le c_4
        have n_9 : (-1 : Int32).toInt = -1 := by decide
        exact wp_so1 ⟨(by omega), (by omega), (by omega)⟩
      ·
        have dc_4 := i_nle c_4
        generalize hz_z__10 : (x1 + (1 : Int32)) = z__10
        first | have e_11 := i_addE hz_z__10 (by omega) (by omega) | obtain ⟨k_11, e_11, e1_11, e2_11⟩ := i_addY hz_z__10
        exact wp_so1 ⟨(by omega), (by omega), (by omega)⟩
    ·
      have dc_2 := i_ne c_2
      have n_13 : (1 : Int32).toInt = 1 := by decide
      refine wp_if (fun c_12 => ?_) (fun c_12 => ?_)
      ·
        have dc_12 := i_eq c_12
        refine wp_bd1 (sf_X5_fields hN h_0 h_1 h_2 h_3) (fun r_6 ⟨q_14, q_15, q_16⟩ => ?_)
        generalize hz_z__18 : (x1 + v_cols) = z__18
        first | have e_19 := i_addE hz_z__18 (by omega) (by omega) | obtain ⟨k_19, e_19, e1_19, e2_19⟩ := i_addY hz_z__18
        refine wp_if (fun c_17 => ?_) (fun c_17 => ?_)
        ·
          have dc_17 := i_le c_17
          have n_20 : (-1 : Int32).toInt = -1 := by decide
          exact wp_so1 ⟨(by omega), (by omega), (by omega)⟩
        ·
          have dc_17 := i_nle c_17
          exact wp_so1 ⟨(by omega), (by omega), (by omega)⟩
      ·
        have dc_12 := i_ne c_12
        have n_21 : (-1 : Int32).toInt = -1 := by decide
        exact wp_so1 ⟨(by omega), (by omega), (by omega)⟩
  ·
    refine wp_ifp (by decide) ?_
    have n_22 : (-1 : Int32).toInt = -1 := by decide
    exact wp_so1 ⟨(by omega), (by omega), (by omega)⟩

theorem uf_X5_placeOf (N : Nat) (x1 : Int32) (x2 : Int32) (v_rows : Int32) (v_cols : Int32) (v_rowOf : List Int32) (v_colOf : List Int32) (v_below : List Int32) (v_face : List Int32) : fX5_placeOf N x1 x2 v_rows v_cols v_rowOf v_colOf v_below v_face = mm_bd1 (fX5_hasField N x1 v_rows v_cols) (fun (r_1 : Bool) =>
    if r_1 = false then
    (some ((-1 : Int32)))
    else (if x2 = (0 : Int32) then
    (mm_ck (mm_inb x1 v_rowOf.length) (some ((mm_ig v_rowOf x1))))
    else (if x2 = (1 : Int32) then
    (mm_ck (mm_inb x1 v_colOf.length) (some ((mm_ig v_colOf x1))))
    else (if x2 = (2 : Int32) then
    (mm_ck (mm_inb x1 v_below.length) (some ((mm_ig v_below x1))))
    else (if x2 = (3 : Int32) then
    (mm_ck (mm_inb x1 v_face.length) (some ((mm_ig v_face x1))))
    else (some ((-1 : Int32)))))))) := rfl

set_option maxHeartbeats 4000000 in
set_option maxRecDepth 20000 in
theorem sf_X5_placeOf {N : Nat} (hN : 700 ≤ N) {x1 : Int32} {x2 : Int32} {v_rows : Int32} {v_cols : Int32} {v_rowOf : List Int32} {v_colOf : List Int32} {v_below : List Int32} {v_face : List Int32} (h_0 : 1 ≤ v_rows.toInt) (h_1 : v_rows.toInt ≤ 4) (h_2 : 1 ≤ v_cols.toInt) (h_3 : v_cols.toInt ≤ 8) (h_4 : v_rowOf.length = 32) (h_5 : v_colOf.length = 32) (h_6 : v_below.length = 32) (h_7 : v_face.length = 32) : wp (fX5_placeOf N x1 x2 v_rows v_cols v_rowOf v_colOf v_below v_face) (fun (r : Int32) => True) := by
  have m3 := (i_fl (a := v_rows) (b := v_cols) (by omega) (by omega) (by omega) (by omega)).2
  refine wp_of (uf_X5_placeOf _ _ _ _ _ _ _ _ _) ?_
  refine wp_bd1 (sf_X5_hasField hN h_0 h_1 h_2 h_3) (fun r_1 q_1 => ?_)
  rcases q_1 with ⟨rfl, q_1⟩ | ⟨rfl, q_1⟩
  ·
    refine wp_ifn (by decide) ?_
    have n_3 : (0 : Int32).toInt = 0 := by decide
    refine wp_if (fun c_2 => ?_) (fun c_2 => ?_)
    ·
      have dc_2 := i_eq c_2
      refine wp_ck (i_inb (by omega) (by omega)) ?_
      exact wp_so1 trivial
    ·
      have dc_2 := i_ne c_2
      have n_5 : (1 : Int32).toInt = 1 := by decide
      refine wp_if (fun c_4 => ?_) (fun c_4 => ?_)
      ·
        have dc_4 := i_eq c_4
        refine wp_ck (i_inb (by omega) (by omega)) ?_
        exact wp_so1 trivial
      ·
        have dc_4 := i_ne c_4
        have n_7 : (2 : Int32).toInt = 2 := by decide
        refine wp_if (fun c_6 => ?_) (fun c_6 => ?_)
        ·
          have dc_6 := i_eq c_6
          refine wp_ck (i_inb (by omega) (by omega)) ?_
          exact wp_so1 trivial
        ·
          have dc_6 := i_ne c_6
          have n_9 : (3 : Int32).toInt = 3 := by decide
          refine wp_if (fun c_8 => ?_) (fun c_8 => ?_)
          ·
            have dc_8 := i_eq c_8
            refine wp_ck (i_inb (by omega) (by omega)) ?_
            exact wp_so1 trivial
          ·
            have dc_8 := i_ne c_8
            exact wp_so1 trivial
  ·
    refine wp_ifp (by decide) ?_
    exact wp_so1 trivial

theorem uf_X5_heightAt_39 (N : Nat) (k_5 : Int32 → Int32 → Int32 → Int32 → Int32 → Int32 → List Int32 → List Int32 → Option (Int32)) (x1 : Int32) (x2 : Int32) (x3 : Int32) (x4 : Int32) (v_rows : Int32) (v_cols : Int32) (v_rowOf : List Int32) (v_colOf : List Int32) : fX5_heightAt_39 N k_5 x1 x2 x3 x4 v_rows v_cols v_rowOf v_colOf = mm_nm (x4 + (1 : Int32)) (fun (y_9 : Int32) =>
    k_5 x1 x2 x3 y_9 v_rows v_cols v_rowOf v_colOf) := rfl

theorem uf_X5_heightAt_5 (N : Nat) (n : Nat) (x1 : Int32) (x2 : Int32) (x3 : Int32) (x4 : Int32) (v_rows : Int32) (v_cols : Int32) (v_rowOf : List Int32) (v_colOf : List Int32) : fX5_heightAt_5 N (n + 1) x1 x2 x3 x4 v_rows v_cols v_rowOf v_colOf = 
    mm_bd1 (fX5_fields N v_rows v_cols) (fun (r_1 : Int32) =>
    if r_1 ≤ x4 then
    (some (x3))
    else (mm_ck (mm_inb x4 v_rowOf.length) (if (mm_ig v_rowOf x4) = x1 then
    (mm_ck (mm_inb x4 v_colOf.length) (if (mm_ig v_colOf x4) = x2 then
    (mm_nm (x3 + (1 : Int32)) (fun (y_8 : Int32) =>
    fX5_heightAt_39 N (fX5_heightAt_5 N n) x1 x2 y_8 x4 v_rows v_cols v_rowOf v_colOf))
    else (fX5_heightAt_39 N (fX5_heightAt_5 N n) x1 x2 x3 x4 v_rows v_cols v_rowOf v_colOf)))
    else (fX5_heightAt_39 N (fX5_heightAt_5 N n) x1 x2 x3 x4 v_rows v_cols v_rowOf v_colOf)))) := rfl

set_option maxHeartbeats 4000000 in
set_option maxRecDepth 20000 in
theorem sf_X5_heightAt_5 {N : Nat} (hN : 700 ≤ N)  : ∀ (n : Nat) (x1 : Int32) (x2 : Int32) (x3 : Int32) (x4 : Int32) (v_rows : Int32) (v_cols : Int32) (v_rowOf : List Int32) (v_colOf : List Int32), 1 ≤ v_rows.toInt → v_rows.toInt ≤ 4 → 1 ≤ v_cols.toInt → v_cols.toInt ≤ 8 → v_rowOf.length = 32 → v_colOf.length = 32 → 0 ≤ x4.toInt → x4.toInt ≤ v_rows.toInt * v_cols.toInt → (v_rows.toInt * v_cols.toInt - x4.toInt).toNat < n → wp (fX5_heightAt_5 N n x1 x2 x3 x4 v_rows v_cols v_rowOf v_colOf) (fun (r : Int32) => True) := by
  intro n
  induction n with
  | zero =>
    intro x1 x2 x3 x4 v_rows v_cols v_rowOf v_colOf h_0 h_1 h_2 h_3 h_4 h_5 h_6 h_7 hm
    exact absurd hm (by omega)
  | succ n ih =>
    intro x1 x2 x3 x4 v_rows v_cols v_rowOf v_colOf h_0 h_1 h_2 h_3 h_4 h_5 h_6 h_7 hm
    have m3 := (i_fl (a := v_rows) (b := v_cols) (by omega) (by omega) (by omega) (by omega)).2
    refine wp_of (uf_X5_heightAt_5 _ _ _ _ _ _ _ _ _ _) ?_
    refine wp_bd1 (sf_X5_fields hN h_0 h_1 h_2 h_3) (fun r_1 ⟨q_1, q_2, q_3⟩ => ?_)
    refine wp_if (fun c_4 => ?_) (fun c_4 => ?_)
    ·
      have dc_4 := i_le c_4
      exact wp_so1 trivial
    ·
      have dc_4 := i_nle c_4
      refine wp_ck (i_inb (by omega) (by omega)) ?_
      refine wp_if (fun c_5 => ?_) (fun c_5 => ?_)
      ·
        have dc_5 := i_eq c_5
        refine wp_ck (i_inb (by omega) (by omega)) ?_
        refine wp_if (fun c_6 => ?_) (fun c_6 => ?_)
        ·
          have dc_6 := i_eq c_6
          refine wp_nm (fun y_8 _ => ?_)
          refine wp_of (uf_X5_heightAt_39 _ _ _ _ _ _ _ _ _ _) ?_
          have n_7 : (1 : Int32).toInt = 1 := by decide
          refine wp_nm (fun y_9 h_y_9 => ?_)
          have e_8 := i_addE h_y_9.symm (by omega) (by omega)
          exact ih _ _ _ _ _ _ _ _ h_0 h_1 h_2 h_3 h_4 h_5 (by omega) (by omega) (by omega)
        ·
          have dc_6 := i_ne c_6
          refine wp_of (uf_X5_heightAt_39 _ _ _ _ _ _ _ _ _ _) ?_
          have n_10 : (1 : Int32).toInt = 1 := by decide
          refine wp_nm (fun y_9__9 h_y_9__9 => ?_)
          have e_11 := i_addE h_y_9__9.symm (by omega) (by omega)
          exact ih _ _ _ _ _ _ _ _ h_0 h_1 h_2 h_3 h_4 h_5 (by omega) (by omega) (by omega)
      ·
        have dc_5 := i_ne c_5
        refine wp_of (uf_X5_heightAt_39 _ _ _ _ _ _ _ _ _ _) ?_
        have n_13 : (1 : Int32).toInt = 1 := by decide
        refine wp_nm (fun y_9__12 h_y_9__12 => ?_)
        have e_14 := i_addE h_y_9__12.symm (by omega) (by omega)
        exact ih _ _ _ _ _ _ _ _ h_0 h_1 h_2 h_3 h_4 h_5 (by omega) (by omega) (by omega)

theorem uf_X5_heightAt (N : Nat) (x1 : Int32) (x2 : Int32) (v_rows : Int32) (v_cols : Int32) (v_rowOf : List Int32) (v_colOf : List Int32) : fX5_heightAt N x1 x2 v_rows v_cols v_rowOf v_colOf = fX5_heightAt_5 N N x1 x2 (0 : Int32) (0 : Int32) v_rows v_cols v_rowOf v_colOf := rfl

set_option maxHeartbeats 4000000 in
set_option maxRecDepth 20000 in
theorem sf_X5_heightAt {N : Nat} (hN : 700 ≤ N) {x1 : Int32} {x2 : Int32} {v_rows : Int32} {v_cols : Int32} {v_rowOf : List Int32} {v_colOf : List Int32} (h_0 : 1 ≤ v_rows.toInt) (h_1 : v_rows.toInt ≤ 4) (h_2 : 1 ≤ v_cols.toInt) (h_3 : v_cols.toInt ≤ 8) (h_4 : v_rowOf.length = 32) (h_5 : v_colOf.length = 32) : wp (fX5_heightAt N x1 x2 v_rows v_cols v_rowOf v_colOf) (fun (r : Int32) => True) := by
  have m3 := (i_fl (a := v_rows) (b := v_cols) (by omega) (by omega) (by omega) (by omega)).2
  refine wp_of (uf_X5_heightAt _ _ _ _ _ _ _) ?_
  have n_1 : (0 : Int32).toInt = 0 := by decide
  exact sf_X5_heightAt_5 hN _ _ _ _ _ _ _ _ _ h_0 h_1 h_2 h_3 h_4 h_5 (by omega) (by omega) (by omega)

theorem uf_X5_highestPile_4 (N : Nat) (n : Nat) (x1 : Int32) (x2 : Int32) (v_rows : Int32) (v_cols : Int32) (v_below : List Int32) : fX5_highestPile_4 N (n + 1) x1 x2 v_rows v_cols v_below = 
    mm_bd1 (fX5_fields N v_rows v_cols) (fun (r_1 : Int32) =>
    if r_1 ≤ x2 then
    (some (x1))
    else (mm_ck (mm_inb x2 v_below.length) (mm_nm ((mm_max x1 ((mm_ig v_below x2) + (1 : Int32)))) (fun (y_5 : Int32) =>
    mm_nm (x2 + (1 : Int32)) (fun (y_6 : Int32) =>
    fX5_highestPile_4 N n y_5 y_6 v_rows v_cols v_below))))) := rfl

set_option maxHeartbeats 4000000 in
set_option maxRecDepth 20000 in
theorem sf_X5_highestPile_4 {N : Nat} (hN : 700 ≤ N)  : ∀ (n : Nat) (x1 : Int32) (x2 : Int32) (v_rows : Int32) (v_cols : Int32) (v_below : List Int32), 1 ≤ v_rows.toInt → v_rows.toInt ≤ 4 → 1 ≤ v_cols.toInt → v_cols.toInt ≤ 8 → v_below.length = 32 → 0 ≤ x2.toInt → x2.toInt ≤ v_rows.toInt * v_cols.toInt → (v_rows.toInt * v_cols.toInt - x2.toInt).toNat < n → wp (fX5_highestPile_4 N n x1 x2 v_rows v_cols v_below) (fun (r : Int32) => True) := by
  intro n
  induction n with
  | zero =>
    intro x1 x2 v_rows v_cols v_below h_0 h_1 h_2 h_3 h_4 h_5 h_6 hm
    exact absurd hm (by omega)
  | succ n ih =>
    intro x1 x2 v_rows v_cols v_below h_0 h_1 h_2 h_3 h_4 h_5 h_6 hm
    have m3 := (i_fl (a := v_rows) (b := v_cols) (by omega) (by omega) (by omega) (by omega)).2
    refine wp_of (uf_X5_highestPile_4 _ _ _ _ _ _ _) ?_
    refine wp_bd1 (sf_X5_fields hN h_0 h_1 h_2 h_3) (fun r_1 ⟨q_1, q_2, q_3⟩ => ?_)
    refine wp_if (fun c_4 => ?_) (fun c_4 => ?_)
    ·
      have dc_4 := i_le c_4
      exact wp_so1 trivial
    ·
      have dc_4 := i_nle c_4
      refine wp_ck (i_inb (by omega) (by omega)) ?_
      refine wp_nm (fun y_5 _ => ?_)
      have n_5 : (1 : Int32).toInt = 1 := by decide
      refine wp_nm (fun y_6 h_y_6 => ?_)
      have e_6 := i_addE h_y_6.symm (by omega) (by omega)
      exact ih _ _ _ _ _ h_0 h_1 h_2 h_3 h_4 (by omega) (by omega) (by omega)

theorem uf_X5_highestPile (N : Nat) (v_rows : Int32) (v_cols : Int32) (v_below : List Int32) : fX5_highestPile N v_rows v_cols v_below = fX5_highestPile_4 N N (0 : Int32) (0 : Int32) v_rows v_cols v_below := rfl

set_option maxHeartbeats 4000000 in
set_option maxRecDepth 20000 in
theorem sf_X5_highestPile {N : Nat} (hN : 700 ≤ N) {v_rows : Int32} {v_cols : Int32} {v_below : List Int32} (h_0 : 1 ≤ v_rows.toInt) (h_1 : v_rows.toInt ≤ 4) (h_2 : 1 ≤ v_cols.toInt) (h_3 : v_cols.toInt ≤ 8) (h_4 : v_below.length = 32) : wp (fX5_highestPile N v_rows v_cols v_below) (fun (r : Int32) => True) := by
  have m3 := (i_fl (a := v_rows) (b := v_cols) (by omega) (by omega) (by omega) (by omega)).2
  refine wp_of (uf_X5_highestPile _ _ _ _) ?_
  have n_1 : (0 : Int32).toInt = 0 := by decide
  exact sf_X5_highestPile_4 hN _ _ _ _ _ _ h_0 h_1 h_2 h_3 h_4 (by omega) (by omega) (by omega)

theorem uf_X5_fieldAt_3 (N : Nat) (n : Nat) (x1 : Int32) (x2 : Int32) (x3 : Int32) (x4 : Int32) (v_rows : Int32) (v_cols : Int32) (v_rowOf : List Int32) (v_colOf : List Int32) (v_below : List Int32) : fX5_fieldAt_3 N (n + 1) x1 x2 x3 x4 v_rows v_cols v_rowOf v_colOf v_below = 
    mm_bd1 (fX5_fields N v_rows v_cols) (fun (r_1 : Int32) =>
    if r_1 ≤ x4 then
    (some ((-1 : Int32)))
    else (mm_ck (mm_inb x4 v_rowOf.length) (if (mm_ig v_rowOf x4) = x1 then
    (mm_ck (mm_inb x4 v_colOf.length) (if (mm_ig v_colOf x4) = x2 then
    (mm_ck (mm_inb x4 v_below.length) (if (mm_ig v_below x4) = x3 then
    (some (x4))
    else (fX5_fieldAt_48 N (fX5_fieldAt_3 N n) x1 x2 x3 x4 v_rows v_cols v_rowOf v_colOf v_below)))
    else (fX5_fieldAt_48 N (fX5_fieldAt_3 N n) x1 x2 x3 x4 v_rows v_cols v_rowOf v_colOf v_below)))
    else (fX5_fieldAt_48 N (fX5_fieldAt_3 N n) x1 x2 x3 x4 v_rows v_cols v_rowOf v_colOf v_below)))) := rfl

theorem uf_X5_fieldAt_48 (N : Nat) (k_3 : Int32 → Int32 → Int32 → Int32 → Int32 → Int32 → List Int32 → List Int32 → List Int32 → Option (Int32)) (x1 : Int32) (x2 : Int32) (x3 : Int32) (x4 : Int32) (v_rows : Int32) (v_cols : Int32) (v_rowOf : List Int32) (v_colOf : List Int32) (v_below : List Int32) : fX5_fieldAt_48 N k_3 x1 x2 x3 x4 v_rows v_cols v_rowOf v_colOf v_below = mm_nm (x4 + (1 : Int32)) (fun (y_10 : Int32) =>
    k_3 x1 x2 x3 y_10 v_rows v_cols v_rowOf v_colOf v_below) := rfl

set_option maxHeartbeats 4000000 in
set_option maxRecDepth 20000 in
theorem sf_X5_fieldAt_3 {N : Nat} (hN : 700 ≤ N)  : ∀ (n : Nat) (x1 : Int32) (x2 : Int32) (x3 : Int32) (x4 : Int32) (v_rows : Int32) (v_cols : Int32) (v_rowOf : List Int32) (v_colOf : List Int32) (v_below : List Int32), 1 ≤ v_rows.toInt → v_rows.toInt ≤ 4 → 1 ≤ v_cols.toInt → v_cols.toInt ≤ 8 → v_rowOf.length = 32 → v_colOf.length = 32 → v_below.length = 32 → 0 ≤ x4.toInt → x4.toInt ≤ v_rows.toInt * v_cols.toInt → (v_rows.toInt * v_cols.toInt - x4.toInt).toNat < n → wp (fX5_fieldAt_3 N n x1 x2 x3 x4 v_rows v_cols v_rowOf v_colOf v_below) (fun (r : Int32) => True) := by
  intro n
  induction n with
  | zero =>
    intro x1 x2 x3 x4 v_rows v_cols v_rowOf v_colOf v_below h_0 h_1 h_2 h_3 h_4 h_5 h_6 h_7 h_8 hm
    exact absurd hm (by omega)
  | succ n ih =>
    intro x1 x2 x3 x4 v_rows v_cols v_rowOf v_colOf v_below h_0 h_1 h_2 h_3 h_4 h_5 h_6 h_7 h_8 hm
    have m3 := (i_fl (a := v_rows) (b := v_cols) (by omega) (by omega) (by omega) (by omega)).2
    refine wp_of (uf_X5_fieldAt_3 _ _ _ _ _ _ _ _ _ _ _) ?_
    refine wp_bd1 (sf_X5_fields hN h_0 h_1 h_2 h_3) (fun r_1 ⟨q_1, q_2, q_3⟩ => ?_)
    refine wp_if (fun c_4 => ?_) (fun c_4 => ?_)
    ·
      have dc_4 := i_le c_4
      exact wp_so1 trivial
    ·
      have dc_4 := i_nle c_4
      refine wp_ck (i_inb (by omega) (by omega)) ?_
      refine wp_if (fun c_5 => ?_) (fun c_5 => ?_)
      ·
        have dc_5 := i_eq c_5
        refine wp_ck (i_inb (by omega) (by omega)) ?_
        refine wp_if (fun c_6 => ?_) (fun c_6 => ?_)
        ·
          have dc_6 := i_eq c_6
          refine wp_ck (i_inb (by omega) (by omega)) ?_
          refine wp_if (fun c_7 => ?_) (fun c_7 => ?_)
          ·
            have dc_7 := i_eq c_7
            exact wp_so1 trivial
          ·
            have dc_7 := i_ne c_7
            refine wp_of (uf_X5_fieldAt_48 _ _ _ _ _ _ _ _ _ _ _) ?_
            have n_8 : (1 : Int32).toInt = 1 := by decide
            refine wp_nm (fun y_10 h_y_10 => ?_)
            have e_9 := i_addE h_y_10.symm (by omega) (by omega)
            exact ih _ _ _ _ _ _ _ _ _ h_0 h_1 h_2 h_3 h_4 h_5 h_6 (by omega) (by omega) (by omega)
        ·
          have dc_6 := i_ne c_6
          refine wp_of (uf_X5_fieldAt_48 _ _ _ _ _ _ _ _ _ _ _) ?_
          have n_11 : (1 : Int32).toInt = 1 := by decide
          refine wp_nm (fun y_10__10 h_y_10__10 => ?_)
          have e_12 := i_addE h_y_10__10.symm (by omega) (by omega)
          exact ih _ _ _ _ _ _ _ _ _ h_0 h_1 h_2 h_3 h_4 h_5 h_6 (by omega) (by omega) (by omega)
      ·
        have dc_5 := i_ne c_5
        refine wp_of (uf_X5_fieldAt_48 _ _ _ _ _ _ _ _ _ _ _) ?_
        have n_14 : (1 : Int32).toInt = 1 := by decide
        refine wp_nm (fun y_10__13 h_y_10__13 => ?_)
        have e_15 := i_addE h_y_10__13.symm (by omega) (by omega)
        exact ih _ _ _ _ _ _ _ _ _ h_0 h_1 h_2 h_3 h_4 h_5 h_6 (by omega) (by omega) (by omega)

theorem uf_X5_fieldAt (N : Nat) (x1 : Int32) (x2 : Int32) (x3 : Int32) (v_rows : Int32) (v_cols : Int32) (v_rowOf : List Int32) (v_colOf : List Int32) (v_below : List Int32) : fX5_fieldAt N x1 x2 x3 v_rows v_cols v_rowOf v_colOf v_below = fX5_fieldAt_3 N N x1 x2 x3 (0 : Int32) v_rows v_cols v_rowOf v_colOf v_below := rfl

set_option maxHeartbeats 4000000 in
set_option maxRecDepth 20000 in
theorem sf_X5_fieldAt {N : Nat} (hN : 700 ≤ N) {x1 : Int32} {x2 : Int32} {x3 : Int32} {v_rows : Int32} {v_cols : Int32} {v_rowOf : List Int32} {v_colOf : List Int32} {v_below : List Int32} (h_0 : 1 ≤ v_rows.toInt) (h_1 : v_rows.toInt ≤ 4) (h_2 : 1 ≤ v_cols.toInt) (h_3 : v_cols.toInt ≤ 8) (h_4 : v_rowOf.length = 32) (h_5 : v_colOf.length = 32) (h_6 : v_below.length = 32) : wp (fX5_fieldAt N x1 x2 x3 v_rows v_cols v_rowOf v_colOf v_below) (fun (r : Int32) => True) := by
  have m3 := (i_fl (a := v_rows) (b := v_cols) (by omega) (by omega) (by omega) (by omega)).2
  refine wp_of (uf_X5_fieldAt _ _ _ _ _ _ _ _ _) ?_
  have n_1 : (0 : Int32).toInt = 0 := by decide
  exact sf_X5_fieldAt_3 hN _ _ _ _ _ _ _ _ _ _ h_0 h_1 h_2 h_3 h_4 h_5 h_6 (by omega) (by omega) (by omega)

theorem uf_X5_topAt (N : Nat) (x1 : Int32) (x2 : Int32) (v_rows : Int32) (v_cols : Int32) (v_rowOf : List Int32) (v_colOf : List Int32) (v_below : List Int32) : fX5_topAt N x1 x2 v_rows v_cols v_rowOf v_colOf v_below = mm_bd1 (fX5_heightAt N x1 x2 v_rows v_cols v_rowOf v_colOf) (fun (r_1 : Int32) =>
    mm_bd1 (fX5_fieldAt N x1 x2 (r_1 - (1 : Int32)) v_rows v_cols v_rowOf v_colOf v_below) (fun (r_3 : Int32) =>
    some (r_3))) := rfl

set_option maxHeartbeats 4000000 in
set_option maxRecDepth 20000 in
theorem sf_X5_topAt {N : Nat} (hN : 700 ≤ N) {x1 : Int32} {x2 : Int32} {v_rows : Int32} {v_cols : Int32} {v_rowOf : List Int32} {v_colOf : List Int32} {v_below : List Int32} (h_0 : 1 ≤ v_rows.toInt) (h_1 : v_rows.toInt ≤ 4) (h_2 : 1 ≤ v_cols.toInt) (h_3 : v_cols.toInt ≤ 8) (h_4 : v_rowOf.length = 32) (h_5 : v_colOf.length = 32) (h_6 : v_below.length = 32) : wp (fX5_topAt N x1 x2 v_rows v_cols v_rowOf v_colOf v_below) (fun (r : Int32) => True) := by
  refine wp_of (uf_X5_topAt _ _ _ _ _ _ _ _) ?_
  refine wp_bd1 (sf_X5_heightAt hN h_0 h_1 h_2 h_3 h_4 h_5) (fun r_1 _ => ?_)
  refine wp_bd1 (sf_X5_fieldAt hN h_0 h_1 h_2 h_3 h_4 h_5 h_6) (fun r_3 _ => ?_)
  exact wp_so1 trivial

theorem uf_X5_isTop (N : Nat) (x1 : Int32) (v_rows : Int32) (v_cols : Int32) (v_rowOf : List Int32) (v_colOf : List Int32) (v_below : List Int32) : fX5_isTop N x1 v_rows v_cols v_rowOf v_colOf v_below = mm_ck (mm_inb x1 v_rowOf.length) (mm_ck (mm_inb x1 v_colOf.length) (mm_bd1 (fX5_topAt N (mm_ig v_rowOf x1) (mm_ig v_colOf x1) v_rows v_cols v_rowOf v_colOf v_below) (fun (r_3 : Int32) =>
    if r_3 = x1 then
    (some (true))
    else (some (false))))) := rfl

set_option maxHeartbeats 4000000 in
set_option maxRecDepth 20000 in
theorem sf_X5_isTop {N : Nat} (hN : 700 ≤ N) {x1 : Int32} {v_rows : Int32} {v_cols : Int32} {v_rowOf : List Int32} {v_colOf : List Int32} {v_below : List Int32} (h_0 : 1 ≤ v_rows.toInt) (h_1 : v_rows.toInt ≤ 4) (h_2 : 1 ≤ v_cols.toInt) (h_3 : v_cols.toInt ≤ 8) (h_4 : v_rowOf.length = 32) (h_5 : v_colOf.length = 32) (h_6 : v_below.length = 32) (h_7 : 0 ≤ x1.toInt) (h_8 : x1.toInt < 32) : wp (fX5_isTop N x1 v_rows v_cols v_rowOf v_colOf v_below) (fun (r : Bool) => True) := by
  refine wp_of (uf_X5_isTop _ _ _ _ _ _ _) ?_
  refine wp_ck (i_inb (by omega) (by omega)) ?_
  refine wp_ck (i_inb (by omega) (by omega)) ?_
  refine wp_bd1 (sf_X5_topAt hN h_0 h_1 h_2 h_3 h_4 h_5 h_6) (fun r_3 _ => ?_)
  refine wp_if (fun c_1 => ?_) (fun c_1 => ?_)
  ·
    have dc_1 := i_eq c_1
    exact wp_so1 trivial
  ·
    have dc_1 := i_ne c_1
    exact wp_so1 trivial

theorem uf_X5_topsTouch (N : Nat) (x1 : Int32) (x2 : Int32) (v_rows : Int32) (v_cols : Int32) (v_rowOf : List Int32) (v_colOf : List Int32) (v_below : List Int32) : fX5_topsTouch N x1 x2 v_rows v_cols v_rowOf v_colOf v_below = mm_ck (mm_inb x1 v_rowOf.length) (mm_ck (mm_inb x2 v_rowOf.length) (mm_ck (mm_inb x1 v_colOf.length) (mm_ck (mm_inb x2 v_colOf.length) (mm_nm (((mm_abs ((mm_ig v_rowOf x1) - (mm_ig v_rowOf x2))) + (mm_abs ((mm_ig v_colOf x1) - (mm_ig v_colOf x2))))) (fun (y_5 : Int32) =>
    if y_5 = (1 : Int32) then
    (mm_bd1 (fX5_isTop N x1 v_rows v_cols v_rowOf v_colOf v_below) (fun (r_7 : Bool) =>
    if r_7 = false then
    (some (false))
    else (mm_bd1 (fX5_isTop N x2 v_rows v_cols v_rowOf v_colOf v_below) (fun (r_10 : Bool) =>
    if r_10 = false then
    (some (false))
    else (some (true))))))
    else (some (false))))))) := rfl

set_option maxHeartbeats 4000000 in
set_option maxRecDepth 20000 in
theorem sf_X5_topsTouch {N : Nat} (hN : 700 ≤ N) {x1 : Int32} {x2 : Int32} {v_rows : Int32} {v_cols : Int32} {v_rowOf : List Int32} {v_colOf : List Int32} {v_below : List Int32} (h_0 : 1 ≤ v_rows.toInt) (h_1 : v_rows.toInt ≤ 4) (h_2 : 1 ≤ v_cols.toInt) (h_3 : v_cols.toInt ≤ 8) (h_4 : v_rowOf.length = 32) (h_5 : v_colOf.length = 32) (h_6 : v_below.length = 32) (h_7 : 0 ≤ x1.toInt) (h_8 : x1.toInt < 32) (h_9 : 0 ≤ x2.toInt) (h_10 : x2.toInt < 32) : wp (fX5_topsTouch N x1 x2 v_rows v_cols v_rowOf v_colOf v_below) (fun (r : Bool) => True) := by
  refine wp_of (uf_X5_topsTouch _ _ _ _ _ _ _ _) ?_
  refine wp_ck (i_inb (by omega) (by omega)) ?_
  refine wp_ck (i_inb (by omega) (by omega)) ?_
  refine wp_ck (i_inb (by omega) (by omega)) ?_
  refine wp_ck (i_inb (by omega) (by omega)) ?_
  refine wp_nm (fun y_5 _ => ?_)
  have n_2 : (1 : Int32).toInt = 1 := by decide
  refine wp_if (fun c_1 => ?_) (fun c_1 => ?_)
  ·
    have dc_1 := i_eq c_1
    refine wp_bd1 (sf_X5_isTop hN h_0 h_1 h_2 h_3 h_4 h_5 h_6 h_7 h_8) (fun r_7 _ => ?_)
    refine wp_if (fun c_3 => ?_) (fun c_3 => ?_)
    ·
      exact wp_so1 trivial
    ·
      refine wp_bd1 (sf_X5_isTop hN h_0 h_1 h_2 h_3 h_4 h_5 h_6 h_9 h_10) (fun r_10 _ => ?_)
      refine wp_if (fun c_4 => ?_) (fun c_4 => ?_)
      ·
        exact wp_so1 trivial
      ·
        exact wp_so1 trivial
  ·
    have dc_1 := i_ne c_1
    exact wp_so1 trivial

theorem uf_X5_torn_4 (N : Nat) (n : Nat) (x1 : Int32) (x2 : Int32) (x3 : Int32) (v_rows : Int32) (v_cols : Int32) (v_worn : List Int32) : fX5_torn_4 N (n + 1) x1 x2 x3 v_rows v_cols v_worn = 
    mm_bd1 (fX5_fields N v_rows v_cols) (fun (r_1 : Int32) =>
    if ((2 : Int32) * r_1) ≤ x3 then
    (some (x2))
    else (mm_ck (mm_nz (2 : Int32)) (mm_ck (mm_nz (2 : Int32)) (mm_bd1 (fX5_neighbour N (x3 / (2 : Int32)) (mm_rem x3 (2 : Int32)) v_rows v_cols) (fun (r_6 : Int32) =>
    if r_6 < 0 then
    (fX5_torn_40 N (fX5_torn_4 N n) x1 x2 x3 v_rows v_cols v_worn)
    else (mm_ck (mm_inb x3 v_worn.length) (if (mm_ig v_worn x3) < x1 then
    (fX5_torn_40 N (fX5_torn_4 N n) x1 x2 x3 v_rows v_cols v_worn)
    else (mm_nm (x2 + (1 : Int32)) (fun (y_11 : Int32) =>
    fX5_torn_40 N (fX5_torn_4 N n) x1 y_11 x3 v_rows v_cols v_worn))))))))) := rfl

theorem uf_X5_torn_40 (N : Nat) (k_4 : Int32 → Int32 → Int32 → Int32 → Int32 → List Int32 → Option (Int32)) (x1 : Int32) (x2 : Int32) (x3 : Int32) (v_rows : Int32) (v_cols : Int32) (v_worn : List Int32) : fX5_torn_40 N k_4 x1 x2 x3 v_rows v_cols v_worn = mm_nm (x3 + (1 : Int32)) (fun (y_12 : Int32) =>
    k_4 x1 x2 y_12 v_rows v_cols v_worn) := rfl

set_option maxHeartbeats 4000000 in
set_option maxRecDepth 20000 in
theorem sf_X5_torn_4 {N : Nat} (hN : 700 ≤ N)  : ∀ (n : Nat) (x1 : Int32) (x2 : Int32) (x3 : Int32) (v_rows : Int32) (v_cols : Int32) (v_worn : List Int32), 1 ≤ v_rows.toInt → v_rows.toInt ≤ 4 → 1 ≤ v_cols.toInt → v_cols.toInt ≤ 8 → v_worn.length = 64 → 0 ≤ x3.toInt → x3.toInt ≤ 2 * (v_rows.toInt * v_cols.toInt) → (2 * (v_rows.toInt * v_cols.toInt) - x3.toInt).toNat < n → wp (fX5_torn_4 N n x1 x2 x3 v_rows v_cols v_worn) (fun (r : Int32) => True) := by
  intro n
  induction n with
  | zero =>
    intro x1 x2 x3 v_rows v_cols v_worn h_0 h_1 h_2 h_3 h_4 h_5 h_6 hm
    exact absurd hm (by omega)
  | succ n ih =>
    intro x1 x2 x3 v_rows v_cols v_worn h_0 h_1 h_2 h_3 h_4 h_5 h_6 hm
    have m3 := (i_fl (a := v_rows) (b := v_cols) (by omega) (by omega) (by omega) (by omega)).2
    refine wp_of (uf_X5_torn_4 _ _ _ _ _ _ _ _) ?_
    refine wp_bd1 (sf_X5_fields hN h_0 h_1 h_2 h_3) (fun r_1 ⟨q_1, q_2, q_3⟩ => ?_)
    have n_5 : (2 : Int32).toInt = 2 := by decide
    generalize hz_z : ((2 : Int32) * r_1) = z
    have e_6 := i_mulLE (c := 2) (by decide) hz_z (by omega) (by omega)
    refine wp_if (fun c_4 => ?_) (fun c_4 => ?_)
    ·
      have dc_4 := i_le c_4
      exact wp_so1 trivial
    ·
      have dc_4 := i_nle c_4
      refine wp_ck (i_nz (by omega)) ?_
      refine wp_ck (i_nz (by omega)) ?_
      generalize hz_z__7 : (x3 / (2 : Int32)) = z__7
      have e_8 := i_divE (c := 2) (by decide) (by decide) hz_z__7 (by omega)
      generalize hz_z__9 : (mm_rem x3 (2 : Int32)) = z__9
      have e_10 := i_remE (c := 2) (by decide) (by decide) hz_z__9 (by omega)
      refine wp_bd1 (sf_X5_neighbour hN h_0 h_1 h_2 h_3) (fun r_6 ⟨q_11, q_12, q_13⟩ => ?_)
      have n_15 : (0 : Int32).toInt = 0 := by decide
      refine wp_if (fun c_14 => ?_) (fun c_14 => ?_)
      ·
        have dc_14 := i_lt c_14
        refine wp_of (uf_X5_torn_40 _ _ _ _ _ _ _ _) ?_
        have n_16 : (1 : Int32).toInt = 1 := by decide
        refine wp_nm (fun y_12 h_y_12 => ?_)
        have e_17 := i_addE h_y_12.symm (by omega) (by omega)
        exact ih _ _ _ _ _ _ h_0 h_1 h_2 h_3 h_4 (by omega) (by omega) (by omega)
      ·
        have dc_14 := i_nlt c_14
        refine wp_ck (i_inb (by omega) (by omega)) ?_
        refine wp_if (fun c_18 => ?_) (fun c_18 => ?_)
        ·
          have dc_18 := i_lt c_18
          refine wp_of (uf_X5_torn_40 _ _ _ _ _ _ _ _) ?_
          have n_20 : (1 : Int32).toInt = 1 := by decide
          refine wp_nm (fun y_12__19 h_y_12__19 => ?_)
          have e_21 := i_addE h_y_12__19.symm (by omega) (by omega)
          exact ih _ _ _ _ _ _ h_0 h_1 h_2 h_3 h_4 (by omega) (by omega) (by omega)
        ·
          have dc_18 := i_nlt c_18
          refine wp_nm (fun y_11 _ => ?_)
          refine wp_of (uf_X5_torn_40 _ _ _ _ _ _ _ _) ?_
          have n_23 : (1 : Int32).toInt = 1 := by decide
          refine wp_nm (fun y_12__22 h_y_12__22 => ?_)
          have e_24 := i_addE h_y_12__22.symm (by omega) (by omega)
          exact ih _ _ _ _ _ _ h_0 h_1 h_2 h_3 h_4 (by omega) (by omega) (by omega)

theorem uf_X5_torn (N : Nat) (x1 : Int32) (v_rows : Int32) (v_cols : Int32) (v_worn : List Int32) : fX5_torn N x1 v_rows v_cols v_worn = fX5_torn_4 N N x1 (0 : Int32) (0 : Int32) v_rows v_cols v_worn := rfl

set_option maxHeartbeats 4000000 in
set_option maxRecDepth 20000 in
theorem sf_X5_torn {N : Nat} (hN : 700 ≤ N) {x1 : Int32} {v_rows : Int32} {v_cols : Int32} {v_worn : List Int32} (h_0 : 1 ≤ v_rows.toInt) (h_1 : v_rows.toInt ≤ 4) (h_2 : 1 ≤ v_cols.toInt) (h_3 : v_cols.toInt ≤ 8) (h_4 : v_worn.length = 64) : wp (fX5_torn N x1 v_rows v_cols v_worn) (fun (r : Int32) => True) := by
  have m3 := (i_fl (a := v_rows) (b := v_cols) (by omega) (by omega) (by omega) (by omega)).2
  refine wp_of (uf_X5_torn _ _ _ _ _) ?_
  have n_1 : (0 : Int32).toInt = 0 := by decide
  exact sf_X5_torn_4 hN _ _ _ _ _ _ _ h_0 h_1 h_2 h_3 h_4 (by omega) (by omega) (by omega)

theorem uf_X5_bendAt (N : Nat) (x1 : Int32) (x2 : Int32) (v_face : List Int32) : fX5_bendAt N x1 x2 v_face = mm_ck (mm_inb x1 v_face.length) (if (mm_ig v_face x1) = 0 then
    (fX5_bendAt_14 N x2 (1 : Int32) v_face)
    else (fX5_bendAt_14 N x2 (0 : Int32) v_face)) := rfl

theorem uf_X5_bendAt_14 (N : Nat) (x2 : Int32) (s0 : Int32) (v_face : List Int32) : fX5_bendAt_14 N x2 s0 v_face = mm_bd1 (fX5_comesOver N x2) (fun (r_3 : Bool) =>
    if s0 = (mm_b r_3) then
    (some ((1 : Int32)))
    else (some ((2 : Int32)))) := rfl

theorem uf_X5_comesOver (N : Nat) (x0 : Int32) : fX5_comesOver N x0 = if (x0 &&& (1 : Int32)) = 0 then
    (some (true))
    else (some (false)) := rfl

set_option maxHeartbeats 4000000 in
set_option maxRecDepth 20000 in
theorem sf_X5_bendAt {N : Nat} (hN : 700 ≤ N) {x1 : Int32} {x2 : Int32} {v_face : List Int32} (h_0 : v_face.length = 32) (h_1 : 0 ≤ x1.toInt) (h_2 : x1.toInt < 32) : wp (fX5_bendAt N x1 x2 v_face) (fun (r : Int32) => True) := by
  refine wp_of (uf_X5_bendAt _ _ _ _) ?_
  refine wp_ck (i_inb (by omega) (by omega)) ?_
  have n_2 : (0 : Int32).toInt = 0 := by decide
  refine wp_if (fun c_1 => ?_) (fun c_1 => ?_)
  ·
    have dc_1 := i_eq c_1
    refine wp_of (uf_X5_bendAt_14 _ _ _ _) ?_
    refine wp_in1 ?_
    refine wp_of (uf_X5_comesOver _ _) ?_
    refine wp_if (fun c_3 => ?_) (fun c_3 => ?_)
    ·
      have dc_3 := i_eq c_3
      refine wp_so1 ?_
      show wp _ _
      have n_5 : (1 : Int32).toInt = 1 := by decide
      generalize hz_z : (mm_b true) = z
      have e_6 : z.toInt = 1 := by rw [← hz_z]; decide
      refine wp_if (fun c_4 => ?_) (fun c_4 => ?_)
      ·
        have dc_4 := i_eq c_4
        exact wp_so1 trivial
      ·
        have dc_4 := i_ne c_4
        exact wp_so1 trivial
    ·
      have dc_3 := i_ne c_3
      refine wp_so1 ?_
      show wp _ _
      have n_8 : (1 : Int32).toInt = 1 := by decide
      generalize hz_z__9 : (mm_b false) = z__9
      have e_10 : z__9.toInt = 0 := by rw [← hz_z__9]; decide
      refine wp_if (fun c_7 => ?_) (fun c_7 => ?_)
      ·
        have dc_7 := i_eq c_7
        exact wp_so1 trivial
      ·
        have dc_7 := i_ne c_7
        exact wp_so1 trivial
  ·
    have dc_1 := i_ne c_1
    refine wp_of (uf_X5_bendAt_14 _ _ _ _) ?_
    refine wp_in1 ?_
    refine wp_of (uf_X5_comesOver _ _) ?_
    refine wp_if (fun c_11 => ?_) (fun c_11 => ?_)
    ·
      have dc_11 := i_eq c_11
      refine wp_so1 ?_
      show wp _ _
      generalize hz_z__13 : (mm_b true) = z__13
      have e_14 : z__13.toInt = 1 := by rw [← hz_z__13]; decide
      refine wp_if (fun c_12 => ?_) (fun c_12 => ?_)
      ·
        have dc_12 := i_eq c_12
        exact wp_so1 trivial
      ·
        have dc_12 := i_ne c_12
        exact wp_so1 trivial
    ·
      have dc_11 := i_ne c_11
      refine wp_so1 ?_
      show wp _ _
      generalize hz_z__16 : (mm_b false) = z__16
      have e_17 : z__16.toInt = 0 := by rw [← hz_z__16]; decide
      refine wp_if (fun c_15 => ?_) (fun c_15 => ?_)
      ·
        have dc_15 := i_eq c_15
        exact wp_so1 trivial
      ·
        have dc_15 := i_ne c_15
        exact wp_so1 trivial

theorem uf_X5_across (N : Nat) (x1 : Int32) (x2 : Int32) (v_rowOf : List Int32) (v_colOf : List Int32) : fX5_across N x1 x2 v_rowOf v_colOf = if (4 : Int32) ≤ x2 then
    (mm_ck (mm_inb x1 v_colOf.length) (some ((mm_ig v_colOf x1))))
    else (mm_ck (mm_inb x1 v_rowOf.length) (some ((mm_ig v_rowOf x1)))) := rfl

theorem uf_X5_along (N : Nat) (x1 : Int32) (x2 : Int32) (v_rowOf : List Int32) (v_colOf : List Int32) : fX5_along N x1 x2 v_rowOf v_colOf = if (4 : Int32) ≤ x2 then
    (mm_ck (mm_inb x1 v_rowOf.length) (some ((mm_ig v_rowOf x1))))
    else (mm_ck (mm_inb x1 v_colOf.length) (some ((mm_ig v_colOf x1)))) := rfl

theorem uf_X5_bendBetween (N : Nat) (x1 : Int32) (x2 : Int32) (x3 : Int32) (x4 : Int32) (v_rowOf : List Int32) (v_colOf : List Int32) (v_face : List Int32) : fX5_bendBetween N x1 x2 x3 x4 v_rowOf v_colOf v_face = mm_bd1 (fX5_comesFromStart N x4) (fun (r_1 : Bool) =>
    if r_1 = false then
    (fX5_bendBetween_15 N x1 x2 x3 x4 x3 v_rowOf v_colOf v_face)
    else (fX5_bendBetween_15 N x1 x2 x3 x4 (x3 - (1 : Int32)) v_rowOf v_colOf v_face)) := rfl

theorem uf_X5_bendBetween_15 (N : Nat) (x1 : Int32) (x2 : Int32) (x3 : Int32) (x4 : Int32) (s0 : Int32) (v_rowOf : List Int32) (v_colOf : List Int32) (v_face : List Int32) : fX5_bendBetween_15 N x1 x2 x3 x4 s0 v_rowOf v_colOf v_face = mm_bd1 (fX5_comesFromStart N x4) (fun (r_4 : Bool) =>
    if r_4 = false then
    (fX5_bendBetween_32 N x1 x2 x4 s0 (x3 - (1 : Int32)) v_rowOf v_colOf v_face)
    else (fX5_bendBetween_32 N x1 x2 x4 s0 x3 v_rowOf v_colOf v_face)) := rfl

theorem uf_X5_bendBetween_32 (N : Nat) (x1 : Int32) (x2 : Int32) (x4 : Int32) (x5 : Int32) (s0 : Int32) (v_rowOf : List Int32) (v_colOf : List Int32) (v_face : List Int32) : fX5_bendBetween_32 N x1 x2 x4 x5 s0 v_rowOf v_colOf v_face = mm_bd1 (fX5_across N x1 x4 v_rowOf v_colOf) (fun (r_7 : Int32) =>
    mm_bd1 (fX5_across N x2 x4 v_rowOf v_colOf) (fun (r_9 : Int32) =>
    if r_7 = r_9 then
    (mm_bd1 (fX5_along N x1 x4 v_rowOf v_colOf) (fun (r_12 : Int32) =>
    if r_12 = x5 then
    (mm_bd1 (fX5_along N x2 x4 v_rowOf v_colOf) (fun (r_15 : Int32) =>
    if r_15 = s0 then
    (mm_bd1 (fX5_bendAt N x1 x4 v_face) (fun (r_18 : Int32) =>
    some (r_18)))
    else (fX5_bendBetween_85 N x1 x2 x4 x5 s0 v_rowOf v_colOf v_face)))
    else (fX5_bendBetween_85 N x1 x2 x4 x5 s0 v_rowOf v_colOf v_face)))
    else (some ((0 : Int32))))) := rfl

theorem uf_X5_bendBetween_85 (N : Nat) (x1 : Int32) (x2 : Int32) (x4 : Int32) (x5 : Int32) (x6 : Int32) (v_rowOf : List Int32) (v_colOf : List Int32) (v_face : List Int32) : fX5_bendBetween_85 N x1 x2 x4 x5 x6 v_rowOf v_colOf v_face = mm_bd1 (fX5_along N x2 x4 v_rowOf v_colOf) (fun (r_20 : Int32) =>
    if r_20 = x5 then
    (mm_bd1 (fX5_along N x1 x4 v_rowOf v_colOf) (fun (r_23 : Int32) =>
    if r_23 = x6 then
    (mm_bd1 (fX5_bendAt N x2 x4 v_face) (fun (r_26 : Int32) =>
    some (r_26)))
    else (some ((0 : Int32)))))
    else (some ((0 : Int32)))) := rfl

theorem uf_X5_comesFromStart (N : Nat) (x0 : Int32) : fX5_comesFromStart N x0 = if (x0 &&& (2 : Int32)) = 0 then
    (some (true))
    else (some (false)) := rfl

set_option maxHeartbeats 4000000 in
set_option maxRecDepth 20000 in
theorem sf_X5_bendBetween {N : Nat} (hN : 700 ≤ N) {x1 : Int32} {x2 : Int32} {x3 : Int32} {x4 : Int32} {v_rowOf : List Int32} {v_colOf : List Int32} {v_face : List Int32} (h_0 : v_rowOf.length = 32) (h_1 : v_colOf.length = 32) (h_2 : v_face.length = 32) (h_3 : 0 ≤ x1.toInt) (h_4 : x1.toInt < 32) (h_5 : 0 ≤ x2.toInt) (h_6 : x2.toInt < 32) : wp (fX5_bendBetween N x1 x2 x3 x4 v_rowOf v_colOf v_face) (fun (r : Int32) => True) := by
  refine wp_of (uf_X5_bendBetween _ _ _ _ _ _ _ _) ?_
  refine wp_in1 ?_
  refine wp_of (uf_X5_comesFromStart _ _) ?_
  have n_2 : (0 : Int32).toInt = 0 := by decide
  refine wp_if (fun c_1 => ?_) (fun c_1 => ?_)
  ·
    have dc_1 := i_eq c_1
    refine wp_so1 ?_
    show wp _ _
    refine wp_ifn (by decide) ?_
    refine wp_of (uf_X5_bendBetween_15 _ _ _ _ _ _ _ _ _) ?_
    refine wp_in1 ?_
    refine wp_of (uf_X5_comesFromStart _ _) ?_
    refine wp_ifp c_1 ?_
    refine wp_so1 ?_
    show wp _ _
    refine wp_ifn (by decide) ?_
    refine wp_of (uf_X5_bendBetween_32 _ _ _ _ _ _ _ _ _) ?_
    refine wp_in1 ?_
    refine wp_of (uf_X5_across _ _ _ _ _) ?_
    have n_5 : (4 : Int32).toInt = 4 := by decide
    refine wp_if (fun c_4 => ?_) (fun c_4 => ?_)
    ·
      have dc_4 := i_le c_4
      refine wp_ck (i_inb (by omega) (by omega)) ?_
      refine wp_so1 ?_
      show wp _ _
      refine wp_in1 ?_
      refine wp_of (uf_X5_across _ _ _ _ _) ?_
      refine wp_ifp c_4 ?_
      refine wp_ck (i_inb (by omega) (by omega)) ?_
      refine wp_so1 ?_
      show wp _ _
      refine wp_if (fun c_6 => ?_) (fun c_6 => ?_)
      ·
        have dc_6 := i_eq c_6
        refine wp_in1 ?_
        refine wp_of (uf_X5_along _ _ _ _ _) ?_
        refine wp_ifp c_4 ?_
        refine wp_ck (i_inb (by omega) (by omega)) ?_
        refine wp_so1 ?_
        show wp _ _
        have n_8 : (1 : Int32).toInt = 1 := by decide
        generalize hz_z : (x3 - (1 : Int32)) = z
        first | have e_9 := i_subE hz_z (by omega) (by omega) | obtain ⟨k_9, e_9, e1_9, e2_9⟩ := i_subY hz_z
        refine wp_if (fun c_7 => ?_) (fun c_7 => ?_)
        ·
          have dc_7 := i_eq c_7
          refine wp_in1 ?_
          refine wp_of (uf_X5_along _ _ _ _ _) ?_
          refine wp_ifp c_4 ?_
          refine wp_ck (i_inb (by omega) (by omega)) ?_
          refine wp_so1 ?_
          show wp _ _
          refine wp_if (fun c_10 => ?_) (fun c_10 => ?_)
          ·
            have dc_10 := i_eq c_10
            refine wp_bd1 (sf_X5_bendAt hN h_2 h_3 h_4) (fun r_18 _ => ?_)
            exact wp_so1 trivial
          ·
            have dc_10 := i_ne c_10
            refine wp_of (uf_X5_bendBetween_85 _ _ _ _ _ _ _ _ _) ?_
            refine wp_in1 ?_
            refine wp_of (uf_X5_along _ _ _ _ _) ?_
            refine wp_ifp c_4 ?_
            refine wp_ck (i_inb (by omega) (by omega)) ?_
            refine wp_so1 ?_
            show wp _ _
            generalize hz_z__12 : (x3 - (1 : Int32)) = z__12
            first | have e_13 := i_subE hz_z__12 (by omega) (by omega) | obtain ⟨k_13, e_13, e1_13, e2_13⟩ := i_subY hz_z__12
            refine wp_if (fun c_11 => ?_) (fun c_11 => ?_)
            ·
              have dc_11 := i_eq c_11
              refine wp_in1 ?_
              refine wp_of (uf_X5_along _ _ _ _ _) ?_
              refine wp_ifp c_4 ?_
              refine wp_ck (i_inb (by omega) (by omega)) ?_
              refine wp_so1 ?_
              show wp _ _
              refine wp_if (fun c_14 => ?_) (fun c_14 => ?_)
              ·
                have dc_14 := i_eq c_14
                refine wp_bd1 (sf_X5_bendAt hN h_2 h_5 h_6) (fun r_26 _ => ?_)
                exact wp_so1 trivial
              ·
                have dc_14 := i_ne c_14
                exact wp_so1 trivial
            ·
              have dc_11 := i_ne c_11
              exact wp_so1 trivial
        ·
          have dc_7 := i_ne c_7
          refine wp_of (uf_X5_bendBetween_85 _ _ _ _ _ _ _ _ _) ?_
          refine wp_in1 ?_
          refine wp_of (uf_X5_along _ _ _ _ _) ?_
          refine wp_ifp c_4 ?_
          refine wp_ck (i_inb (by omega) (by omega)) ?_
          refine wp_so1 ?_
          show wp _ _
          generalize hz_z__16 : (x3 - (1 : Int32)) = z__16
          first | have e_17 := i_subE hz_z__16 (by omega) (by omega) | obtain ⟨k_17, e_17, e1_17, e2_17⟩ := i_subY hz_z__16
          refine wp_if (fun c_15 => ?_) (fun c_15 => ?_)
          ·
            have dc_15 := i_eq c_15
            refine wp_in1 ?_
            refine wp_of (uf_X5_along _ _ _ _ _) ?_
            refine wp_ifp c_4 ?_
            refine wp_ck (i_inb (by omega) (by omega)) ?_
            refine wp_so1 ?_
            show wp _ _
            refine wp_if (fun c_18 => ?_) (fun c_18 => ?_)
            ·
              have dc_18 := i_eq c_18
              refine wp_bd1 (sf_X5_bendAt hN h_2 h_5 h_6) (fun r_26__19 _ => ?_)
              exact wp_so1 trivial
            ·
              have dc_18 := i_ne c_18
              exact wp_so1 trivial
          ·
            have dc_15 := i_ne c_15
            exact wp_so1 trivial
      ·
        have dc_6 := i_ne c_6
        exact wp_so1 trivial
    ·
      have dc_4 := i_nle c_4
      refine wp_ck (i_inb (by omega) (by omega)) ?_
      refine wp_so1 ?_
      show wp _ _
      refine wp_in1 ?_
      refine wp_of (uf_X5_across _ _ _ _ _) ?_
      refine wp_ifn c_4 ?_
      refine wp_ck (i_inb (by omega) (by omega)) ?_
      refine wp_so1 ?_
      show wp _ _
      refine wp_if (fun c_20 => ?_) (fun c_20 => ?_)
      ·
        have dc_20 := i_eq c_20
        refine wp_in1 ?_
        refine wp_of (uf_X5_along _ _ _ _ _) ?_
        refine wp_ifn c_4 ?_
        refine wp_ck (i_inb (by omega) (by omega)) ?_
        refine wp_so1 ?_
        show wp _ _
        have n_22 : (1 : Int32).toInt = 1 := by decide
        generalize hz_z__23 : (x3 - (1 : Int32)) = z__23
        first | have e_24 := i_subE hz_z__23 (by omega) (by omega) | obtain ⟨k_24, e_24, e1_24, e2_24⟩ := i_subY hz_z__23
        refine wp_if (fun c_21 => ?_) (fun c_21 => ?_)
        ·
          have dc_21 := i_eq c_21
          refine wp_in1 ?_
          refine wp_of (uf_X5_along _ _ _ _ _) ?_
          refine wp_ifn c_4 ?_
          refine wp_ck (i_inb (by omega) (by omega)) ?_
          refine wp_so1 ?_
          show wp _ _
          refine wp_if (fun c_25 => ?_) (fun c_25 => ?_)
          ·
            have dc_25 := i_eq c_25
            refine wp_bd1 (sf_X5_bendAt hN h_2 h_3 h_4) (fun r_18__26 _ => ?_)
            exact wp_so1 trivial
          ·
            have dc_25 := i_ne c_25
            refine wp_of (uf_X5_bendBetween_85 _ _ _ _ _ _ _ _ _) ?_
            refine wp_in1 ?_
            refine wp_of (uf_X5_along _ _ _ _ _) ?_
            refine wp_ifn c_4 ?_
            refine wp_ck (i_inb (by omega) (by omega)) ?_
            refine wp_so1 ?_
            show wp _ _
            generalize hz_z__28 : (x3 - (1 : Int32)) = z__28
            first | have e_29 := i_subE hz_z__28 (by omega) (by omega) | obtain ⟨k_29, e_29, e1_29, e2_29⟩ := i_subY hz_z__28
            refine wp_if (fun c_27 => ?_) (fun c_27 => ?_)
            ·
              have dc_27 := i_eq c_27
              refine wp_in1 ?_
              refine wp_of (uf_X5_along _ _ _ _ _) ?_
              refine wp_ifn c_4 ?_
              refine wp_ck (i_inb (by omega) (by omega)) ?_
              refine wp_so1 ?_
              show wp _ _
              refine wp_if (fun c_30 => ?_) (fun c_30 => ?_)
              ·
                have dc_30 := i_eq c_30
                refine wp_bd1 (sf_X5_bendAt hN h_2 h_5 h_6) (fun r_26__31 _ => ?_)
                exact wp_so1 trivial
              ·
                have dc_30 := i_ne c_30
                exact wp_so1 trivial
            ·
              have dc_27 := i_ne c_27
              exact wp_so1 trivial
        ·
          have dc_21 := i_ne c_21
          refine wp_of (uf_X5_bendBetween_85 _ _ _ _ _ _ _ _ _) ?_
          refine wp_in1 ?_
          refine wp_of (uf_X5_along _ _ _ _ _) ?_
          refine wp_ifn c_4 ?_
          refine wp_ck (i_inb (by omega) (by omega)) ?_
          refine wp_so1 ?_
          show wp _ _
          generalize hz_z__33 : (x3 - (1 : Int32)) = z__33
          first | have e_34 := i_subE hz_z__33 (by omega) (by omega) | obtain ⟨k_34, e_34, e1_34, e2_34⟩ := i_subY hz_z__33
          refine wp_if (fun c_32 => ?_) (fun c_32 => ?_)
          ·
            have dc_32 := i_eq c_32
            refine wp_in1 ?_
            refine wp_of (uf_X5_along _ _ _ _ _) ?_
            refine wp_ifn c_4 ?_
            refine wp_ck (i_inb (by omega) (by omega)) ?_
            refine wp_so1 ?_
            show wp _ _
            refine wp_if (fun c_35 => ?_) (fun c_35 => ?_)
            ·
              have dc_35 := i_eq c_35
              refine wp_bd1 (sf_X5_bendAt hN h_2 h_5 h_6) (fun r_26__36 _ => ?_)
              exact wp_so1 trivial
            ·
              have dc_35 := i_ne c_35
              exact wp_so1 trivial
          ·
            have dc_32 := i_ne c_32
            exact wp_so1 trivial
      ·
        have dc_20 := i_ne c_20
        exact wp_so1 trivial
  ·
    have dc_1 := i_ne c_1
    refine wp_so1 ?_
    show wp _ _
    refine wp_ifp (by decide) ?_
    refine wp_of (uf_X5_bendBetween_15 _ _ _ _ _ _ _ _ _) ?_
    refine wp_in1 ?_
    refine wp_of (uf_X5_comesFromStart _ _) ?_
    refine wp_ifn c_1 ?_
    refine wp_so1 ?_
    show wp _ _
    refine wp_ifp (by decide) ?_
    refine wp_of (uf_X5_bendBetween_32 _ _ _ _ _ _ _ _ _) ?_
    refine wp_in1 ?_
    refine wp_of (uf_X5_across _ _ _ _ _) ?_
    have n_39 : (4 : Int32).toInt = 4 := by decide
    refine wp_if (fun c_38 => ?_) (fun c_38 => ?_)
    ·
      have dc_38 := i_le c_38
      refine wp_ck (i_inb (by omega) (by omega)) ?_
      refine wp_so1 ?_
      show wp _ _
      refine wp_in1 ?_
      refine wp_of (uf_X5_across _ _ _ _ _) ?_
      refine wp_ifp c_38 ?_
      refine wp_ck (i_inb (by omega) (by omega)) ?_
      refine wp_so1 ?_
      show wp _ _
      refine wp_if (fun c_40 => ?_) (fun c_40 => ?_)
      ·
        have dc_40 := i_eq c_40
        refine wp_in1 ?_
        refine wp_of (uf_X5_along _ _ _ _ _) ?_
        refine wp_ifp c_38 ?_
        refine wp_ck (i_inb (by omega) (by omega)) ?_
        refine wp_so1 ?_
        show wp _ _
        refine wp_if (fun c_41 => ?_) (fun c_41 => ?_)
        ·
          have dc_41 := i_eq c_41
          refine wp_in1 ?_
          refine wp_of (uf_X5_along _ _ _ _ _) ?_
          refine wp_ifp c_38 ?_
          refine wp_ck (i_inb (by omega) (by omega)) ?_
          refine wp_so1 ?_
          show wp _ _
          have n_43 : (1 : Int32).toInt = 1 := by decide
          generalize hz_z__44 : (x3 - (1 : Int32)) = z__44
          first | have e_45 := i_subE hz_z__44 (by omega) (by omega) | obtain ⟨k_45, e_45, e1_45, e2_45⟩ := i_subY hz_z__44
          refine wp_if (fun c_42 => ?_) (fun c_42 => ?_)
          ·
            have dc_42 := i_eq c_42
            refine wp_bd1 (sf_X5_bendAt hN h_2 h_3 h_4) (fun r_18__46 _ => ?_)
            exact wp_so1 trivial
          ·
            have dc_42 := i_ne c_42
            refine wp_of (uf_X5_bendBetween_85 _ _ _ _ _ _ _ _ _) ?_
            refine wp_in1 ?_
            refine wp_of (uf_X5_along _ _ _ _ _) ?_
            refine wp_ifp c_38 ?_
            refine wp_ck (i_inb (by omega) (by omega)) ?_
            refine wp_so1 ?_
            show wp _ _
            refine wp_if (fun c_47 => ?_) (fun c_47 => ?_)
            ·
              have dc_47 := i_eq c_47
              refine wp_in1 ?_
              refine wp_of (uf_X5_along _ _ _ _ _) ?_
              refine wp_ifp c_38 ?_
              refine wp_ck (i_inb (by omega) (by omega)) ?_
              refine wp_so1 ?_
              show wp _ _
              generalize hz_z__49 : (x3 - (1 : Int32)) = z__49
              first | have e_50 := i_subE hz_z__49 (by omega) (by omega) | obtain ⟨k_50, e_50, e1_50, e2_50⟩ := i_subY hz_z__49
              refine wp_if (fun c_48 => ?_) (fun c_48 => ?_)
              ·
                have dc_48 := i_eq c_48
                refine wp_bd1 (sf_X5_bendAt hN h_2 h_5 h_6) (fun r_26__51 _ => ?_)
                exact wp_so1 trivial
              ·
                have dc_48 := i_ne c_48
                exact wp_so1 trivial
            ·
              have dc_47 := i_ne c_47
              exact wp_so1 trivial
        ·
          have dc_41 := i_ne c_41
          refine wp_of (uf_X5_bendBetween_85 _ _ _ _ _ _ _ _ _) ?_
          refine wp_in1 ?_
          refine wp_of (uf_X5_along _ _ _ _ _) ?_
          refine wp_ifp c_38 ?_
          refine wp_ck (i_inb (by omega) (by omega)) ?_
          refine wp_so1 ?_
          show wp _ _
          refine wp_if (fun c_52 => ?_) (fun c_52 => ?_)
          ·
            have dc_52 := i_eq c_52
            refine wp_in1 ?_
            refine wp_of (uf_X5_along _ _ _ _ _) ?_
            refine wp_ifp c_38 ?_
            refine wp_ck (i_inb (by omega) (by omega)) ?_
            refine wp_so1 ?_
            show wp _ _
            have n_54 : (1 : Int32).toInt = 1 := by decide
            generalize hz_z__55 : (x3 - (1 : Int32)) = z__55
            first | have e_56 := i_subE hz_z__55 (by omega) (by omega) | obtain ⟨k_56, e_56, e1_56, e2_56⟩ := i_subY hz_z__55
            refine wp_if (fun c_53 => ?_) (fun c_53 => ?_)
            ·
              have dc_53 := i_eq c_53
              refine wp_bd1 (sf_X5_bendAt hN h_2 h_5 h_6) (fun r_26__57 _ => ?_)
              exact wp_so1 trivial
            ·
              have dc_53 := i_ne c_53
              exact wp_so1 trivial
          ·
            have dc_52 := i_ne c_52
            exact wp_so1 trivial
      ·
        have dc_40 := i_ne c_40
        exact wp_so1 trivial
    ·
      have dc_38 := i_nle c_38
      refine wp_ck (i_inb (by omega) (by omega)) ?_
      refine wp_so1 ?_
      show wp _ _
      refine wp_in1 ?_
      refine wp_of (uf_X5_across _ _ _ _ _) ?_
      refine wp_ifn c_38 ?_
      refine wp_ck (i_inb (by omega) (by omega)) ?_
      refine wp_so1 ?_
      show wp _ _
      refine wp_if (fun c_58 => ?_) (fun c_58 => ?_)
      ·
        have dc_58 := i_eq c_58
        refine wp_in1 ?_
        refine wp_of (uf_X5_along _ _ _ _ _) ?_
        refine wp_ifn c_38 ?_
        refine wp_ck (i_inb (by omega) (by omega)) ?_
        refine wp_so1 ?_
        show wp _ _
        refine wp_if (fun c_59 => ?_) (fun c_59 => ?_)
        ·
          have dc_59 := i_eq c_59
          refine wp_in1 ?_
          refine wp_of (uf_X5_along _ _ _ _ _) ?_
          refine wp_ifn c_38 ?_
          refine wp_ck (i_inb (by omega) (by omega)) ?_
          refine wp_so1 ?_
          show wp _ _
          have n_61 : (1 : Int32).toInt = 1 := by decide
          generalize hz_z__62 : (x3 - (1 : Int32)) = z__62
          first | have e_63 := i_subE hz_z__62 (by omega) (by omega) | obtain ⟨k_63, e_63, e1_63, e2_63⟩ := i_subY hz_z__62
          refine wp_if (fun c_60 => ?_) (fun c_60 => ?_)
          ·
            have dc_60 := i_eq c_60
            refine wp_bd1 (sf_X5_bendAt hN h_2 h_3 h_4) (fun r_18__64 _ => ?_)
            exact wp_so1 trivial
          ·
            have dc_60 := i_ne c_60
            refine wp_of (uf_X5_bendBetween_85 _ _ _ _ _ _ _ _ _) ?_
            refine wp_in1 ?_
            refine wp_of (uf_X5_along _ _ _ _ _) ?_
            refine wp_ifn c_38 ?_
            refine wp_ck (i_inb (by omega) (by omega)) ?_
            refine wp_so1 ?_
            show wp _ _
            refine wp_if (fun c_65 => ?_) (fun c_65 => ?_)
            ·
              have dc_65 := i_eq c_65
              refine wp_in1 ?_
              refine wp_of (uf_X5_along _ _ _ _ _) ?_
              refine wp_ifn c_38 ?_
              refine wp_ck (i_inb (by omega) (by omega)) ?_
              refine wp_so1 ?_
              show wp _ _
              generalize hz_z__67 : (x3 - (1 : Int32)) = z__67
              first | have e_68 := i_subE hz_z__67 (by omega) (by omega) | obtain ⟨k_68, e_68, e1_68, e2_68⟩ := i_subY hz_z__67
              refine wp_if (fun c_66 => ?_) (fun c_66 => ?_)
              ·
                have dc_66 := i_eq c_66
                refine wp_bd1 (sf_X5_bendAt hN h_2 h_5 h_6) (fun r_26__69 _ => ?_)
                exact wp_so1 trivial
              ·
                have dc_66 := i_ne c_66
                exact wp_so1 trivial
            ·
              have dc_65 := i_ne c_65
              exact wp_so1 trivial
        ·
          have dc_59 := i_ne c_59
          refine wp_of (uf_X5_bendBetween_85 _ _ _ _ _ _ _ _ _) ?_
          refine wp_in1 ?_
          refine wp_of (uf_X5_along _ _ _ _ _) ?_
          refine wp_ifn c_38 ?_
          refine wp_ck (i_inb (by omega) (by omega)) ?_
          refine wp_so1 ?_
          show wp _ _
          refine wp_if (fun c_70 => ?_) (fun c_70 => ?_)
          ·
            have dc_70 := i_eq c_70
            refine wp_in1 ?_
            refine wp_of (uf_X5_along _ _ _ _ _) ?_
            refine wp_ifn c_38 ?_
            refine wp_ck (i_inb (by omega) (by omega)) ?_
            refine wp_so1 ?_
            show wp _ _
            have n_72 : (1 : Int32).toInt = 1 := by decide
            generalize hz_z__73 : (x3 - (1 : Int32)) = z__73
            first | have e_74 := i_subE hz_z__73 (by omega) (by omega) | obtain ⟨k_74, e_74, e1_74, e2_74⟩ := i_subY hz_z__73
            refine wp_if (fun c_71 => ?_) (fun c_71 => ?_)
            ·
              have dc_71 := i_eq c_71
              refine wp_bd1 (sf_X5_bendAt hN h_2 h_5 h_6) (fun r_26__75 _ => ?_)
              exact wp_so1 trivial
            ·
              have dc_71 := i_ne c_71
              exact wp_so1 trivial
          ·
            have dc_70 := i_ne c_70
            exact wp_so1 trivial
      ·
        have dc_58 := i_ne c_58
        exact wp_so1 trivial

theorem uf_X5_markBends_53 (N : Nat) (k_6 : Int32 → Int32 → Int32 → Int32 → Int32 → Int32 → Int32 → List Int32 → List Int32 → List Int32 → List Int32 → List Int32 → Option (Int32 × List Int32)) (x1 : Int32) (x2 : Int32) (x3 : Int32) (x4 : Int32) (x5 : Int32) (s0 : Int32) (v_rows : Int32) (v_cols : Int32) (v_rowOf : List Int32) (v_colOf : List Int32) (v_face : List Int32) (v_worn : List Int32) (v_bend : List Int32) : fX5_markBends_53 N k_6 x1 x2 x3 x4 x5 s0 v_rows v_cols v_rowOf v_colOf v_face v_worn v_bend = fX5_markBends_69 N k_6 x1 x2 x3 x4 x5 (0 : Int32) s0 v_rows v_cols v_rowOf v_colOf v_face v_worn v_bend := rfl

theorem uf_X5_markBends_6 (N : Nat) (n : Nat) (x1 : Int32) (x2 : Int32) (x3 : Int32) (x4 : Int32) (x5 : Int32) (v_rows : Int32) (v_cols : Int32) (v_rowOf : List Int32) (v_colOf : List Int32) (v_face : List Int32) (v_worn : List Int32) (v_bend : List Int32) : fX5_markBends_6 N (n + 1) x1 x2 x3 x4 x5 v_rows v_cols v_rowOf v_colOf v_face v_worn v_bend = 
    mm_bd1 (fX5_fields N v_rows v_cols) (fun (r_1 : Int32) =>
    if ((2 : Int32) * r_1) ≤ x5 then
    (some (x4, v_bend))
    else (mm_ck (mm_nz (2 : Int32)) (mm_ck (mm_nz (2 : Int32)) (mm_bd1 (fX5_neighbour N (x5 / (2 : Int32)) (mm_rem x5 (2 : Int32)) v_rows v_cols) (fun (r_6 : Int32) =>
    if r_6 < 0 then
    (fX5_markBends_53 N (fX5_markBends_6 N n) x1 x2 x3 x4 x5 x5 v_rows v_cols v_rowOf v_colOf v_face v_worn v_bend)
    else (mm_ck (mm_inb x5 v_worn.length) (if (mm_ig v_worn x5) < x3 then
    (mm_ck (mm_nz (2 : Int32)) (mm_bd1 (fX5_bendBetween N (x5 / (2 : Int32)) r_6 x1 x2 v_rowOf v_colOf v_face) (fun (r_12 : Int32) =>
    fX5_markBends_69 N (fX5_markBends_6 N n) x1 x2 x3 x4 x5 r_12 x5 v_rows v_cols v_rowOf v_colOf v_face v_worn v_bend)))
    else (fX5_markBends_53 N (fX5_markBends_6 N n) x1 x2 x3 x4 x5 x5 v_rows v_cols v_rowOf v_colOf v_face v_worn v_bend)))))))) := rfl

theorem uf_X5_markBends_69 (N : Nat) (k_6 : Int32 → Int32 → Int32 → Int32 → Int32 → Int32 → Int32 → List Int32 → List Int32 → List Int32 → List Int32 → List Int32 → Option (Int32 × List Int32)) (x1 : Int32) (x2 : Int32) (x3 : Int32) (x4 : Int32) (x5 : Int32) (s0 : Int32) (s1 : Int32) (v_rows : Int32) (v_cols : Int32) (v_rowOf : List Int32) (v_colOf : List Int32) (v_face : List Int32) (v_worn : List Int32) (v_bend : List Int32) : fX5_markBends_69 N k_6 x1 x2 x3 x4 x5 s0 s1 v_rows v_cols v_rowOf v_colOf v_face v_worn v_bend = mm_ck (mm_inb s1 v_bend.length) (mm_nm (mm_is v_bend s1 s0) (fun (l_15 : List Int32) =>
    mm_ck (mm_inb x5 l_15.length) (if (mm_ig l_15 x5) = 0 then
    (fX5_markBends_83 N k_6 x1 x2 x3 x4 x5 v_rows v_cols v_rowOf v_colOf v_face v_worn l_15)
    else (mm_nm (x4 + (1 : Int32)) (fun (y_18 : Int32) =>
    fX5_markBends_83 N k_6 x1 x2 x3 y_18 x5 v_rows v_cols v_rowOf v_colOf v_face v_worn l_15))))) := rfl

theorem uf_X5_markBends_83 (N : Nat) (k_6 : Int32 → Int32 → Int32 → Int32 → Int32 → Int32 → Int32 → List Int32 → List Int32 → List Int32 → List Int32 → List Int32 → Option (Int32 × List Int32)) (x1 : Int32) (x2 : Int32) (x3 : Int32) (x4 : Int32) (x5 : Int32) (v_rows : Int32) (v_cols : Int32) (v_rowOf : List Int32) (v_colOf : List Int32) (v_face : List Int32) (v_worn : List Int32) (v_bend : List Int32) : fX5_markBends_83 N k_6 x1 x2 x3 x4 x5 v_rows v_cols v_rowOf v_colOf v_face v_worn v_bend = mm_nm (x5 + (1 : Int32)) (fun (y_19 : Int32) =>
    k_6 x1 x2 x3 x4 y_19 v_rows v_cols v_rowOf v_colOf v_face v_worn v_bend) := rfl

set_option maxHeartbeats 4000000 in
set_option maxRecDepth 20000 in
theorem sf_X5_markBends_6 {N : Nat} (hN : 700 ≤ N)  : ∀ (n : Nat) (x1 : Int32) (x2 : Int32) (x3 : Int32) (x4 : Int32) (x5 : Int32) (v_rows : Int32) (v_cols : Int32) (v_rowOf : List Int32) (v_colOf : List Int32) (v_face : List Int32) (v_worn : List Int32) (v_bend : List Int32), 1 ≤ v_rows.toInt → v_rows.toInt ≤ 4 → 1 ≤ v_cols.toInt → v_cols.toInt ≤ 8 → v_rowOf.length = 32 → v_colOf.length = 32 → v_face.length = 32 → v_worn.length = 64 → v_bend.length = 64 → 0 ≤ x5.toInt → x5.toInt ≤ 2 * (v_rows.toInt * v_cols.toInt) → (2 * (v_rows.toInt * v_cols.toInt) - x5.toInt).toNat < n → wp (fX5_markBends_6 N n x1 x2 x3 x4 x5 v_rows v_cols v_rowOf v_colOf v_face v_worn v_bend) (cu2 (fun (r : Int32) (wv_bend : List Int32) => wv_bend.length = 64)) := by
  intro n
  induction n with
  | zero =>
    intro x1 x2 x3 x4 x5 v_rows v_cols v_rowOf v_colOf v_face v_worn v_bend h_0 h_1 h_2 h_3 h_4 h_5 h_6 h_7 h_8 h_9 h_10 hm
    exact absurd hm (by omega)
  | succ n ih =>
    intro x1 x2 x3 x4 x5 v_rows v_cols v_rowOf v_colOf v_face v_worn v_bend h_0 h_1 h_2 h_3 h_4 h_5 h_6 h_7 h_8 h_9 h_10 hm
    have m3 := (i_fl (a := v_rows) (b := v_cols) (by omega) (by omega) (by omega) (by omega)).2
    refine wp_of (uf_X5_markBends_6 _ _ _ _ _ _ _ _ _ _ _ _ _ _) ?_
    refine wp_bd1 (sf_X5_fields hN h_0 h_1 h_2 h_3) (fun r_1 ⟨q_1, q_2, q_3⟩ => ?_)
    have n_5 : (2 : Int32).toInt = 2 := by decide
    generalize hz_z : ((2 : Int32) * r_1) = z
    have e_6 := i_mulLE (c := 2) (by decide) hz_z (by omega) (by omega)
    refine wp_if (fun c_4 => ?_) (fun c_4 => ?_)
    ·
      have dc_4 := i_le c_4
      exact wp_so2 h_8
    ·
      have dc_4 := i_nle c_4
      refine wp_ck (i_nz (by omega)) ?_
      refine wp_ck (i_nz (by omega)) ?_
      generalize hz_z__7 : (x5 / (2 : Int32)) = z__7
      have e_8 := i_divE (c := 2) (by decide) (by decide) hz_z__7 (by omega)
      generalize hz_z__9 : (mm_rem x5 (2 : Int32)) = z__9
      have e_10 := i_remE (c := 2) (by decide) (by decide) hz_z__9 (by omega)
      refine wp_bd1 (sf_X5_neighbour hN h_0 h_1 h_2 h_3) (fun r_6 ⟨q_11, q_12, q_13⟩ => ?_)
      have n_15 : (0 : Int32).toInt = 0 := by decide
      refine wp_if (fun c_14 => ?_) (fun c_14 => ?_)
      ·
        have dc_14 := i_lt c_14
        refine wp_of (uf_X5_markBends_53 _ _ _ _ _ _ _ _ _ _ _ _ _ _ _) ?_
        refine wp_of (uf_X5_markBends_69 _ _ _ _ _ _ _ _ _ _ _ _ _ _ _ _) ?_
        refine wp_ck (i_inb (by omega) (by omega)) ?_
        refine wp_nm (fun l_15 h_l_15 => ?_)
        have nl_l_15 : l_15.length = 64 := by rw [h_l_15, is_len]; assumption
        refine wp_ck (i_inb (by omega) (by omega)) ?_
        refine wp_if (fun c_16 => ?_) (fun c_16 => ?_)
        ·
          have dc_16 := i_eq c_16
          refine wp_of (uf_X5_markBends_83 _ _ _ _ _ _ _ _ _ _ _ _ _ _) ?_
          have n_17 : (1 : Int32).toInt = 1 := by decide
          refine wp_nm (fun y_19 h_y_19 => ?_)
          have e_18 := i_addE h_y_19.symm (by omega) (by omega)
          exact ih _ _ _ _ _ _ _ _ _ _ _ _ h_0 h_1 h_2 h_3 h_4 h_5 h_6 h_7 nl_l_15 (by omega) (by omega) (by omega)
        ·
          have dc_16 := i_ne c_16
          refine wp_nm (fun y_18 _ => ?_)
          refine wp_of (uf_X5_markBends_83 _ _ _ _ _ _ _ _ _ _ _ _ _ _) ?_
          have n_20 : (1 : Int32).toInt = 1 := by decide
          refine wp_nm (fun y_19__19 h_y_19__19 => ?_)
          have e_21 := i_addE h_y_19__19.symm (by omega) (by omega)
          exact ih _ _ _ _ _ _ _ _ _ _ _ _ h_0 h_1 h_2 h_3 h_4 h_5 h_6 h_7 nl_l_15 (by omega) (by omega) (by omega)
      ·
        have dc_14 := i_nlt c_14
        refine wp_ck (i_inb (by omega) (by omega)) ?_
        refine wp_if (fun c_22 => ?_) (fun c_22 => ?_)
        ·
          have dc_22 := i_lt c_22
          refine wp_ck (i_nz (by omega)) ?_
          refine wp_bd1 (sf_X5_bendBetween hN h_4 h_5 h_6 (by omega) (by omega) (by omega) (by omega)) (fun r_12 _ => ?_)
          refine wp_of (uf_X5_markBends_69 _ _ _ _ _ _ _ _ _ _ _ _ _ _ _ _) ?_
          refine wp_ck (i_inb (by omega) (by omega)) ?_
          refine wp_nm (fun l_15__23 h_l_15__23 => ?_)
          have nl_l_15__23 : l_15__23.length = 64 := by rw [h_l_15__23, is_len]; assumption
          refine wp_ck (i_inb (by omega) (by omega)) ?_
          refine wp_if (fun c_24 => ?_) (fun c_24 => ?_)
          ·
            have dc_24 := i_eq c_24
            refine wp_of (uf_X5_markBends_83 _ _ _ _ _ _ _ _ _ _ _ _ _ _) ?_
            have n_26 : (1 : Int32).toInt = 1 := by decide
            refine wp_nm (fun y_19__25 h_y_19__25 => ?_)
            have e_27 := i_addE h_y_19__25.symm (by omega) (by omega)
            exact ih _ _ _ _ _ _ _ _ _ _ _ _ h_0 h_1 h_2 h_3 h_4 h_5 h_6 h_7 nl_l_15__23 (by omega) (by omega) (by omega)
          ·
            have dc_24 := i_ne c_24
            refine wp_nm (fun y_18__28 _ => ?_)
            refine wp_of (uf_X5_markBends_83 _ _ _ _ _ _ _ _ _ _ _ _ _ _) ?_
            have n_30 : (1 : Int32).toInt = 1 := by decide
            refine wp_nm (fun y_19__29 h_y_19__29 => ?_)
            have e_31 := i_addE h_y_19__29.symm (by omega) (by omega)
            exact ih _ _ _ _ _ _ _ _ _ _ _ _ h_0 h_1 h_2 h_3 h_4 h_5 h_6 h_7 nl_l_15__23 (by omega) (by omega) (by omega)
        ·
          have dc_22 := i_nlt c_22
          refine wp_of (uf_X5_markBends_53 _ _ _ _ _ _ _ _ _ _ _ _ _ _ _) ?_
          refine wp_of (uf_X5_markBends_69 _ _ _ _ _ _ _ _ _ _ _ _ _ _ _ _) ?_
          refine wp_ck (i_inb (by omega) (by omega)) ?_
          refine wp_nm (fun l_15__32 h_l_15__32 => ?_)
          have nl_l_15__32 : l_15__32.length = 64 := by rw [h_l_15__32, is_len]; assumption
          refine wp_ck (i_inb (by omega) (by omega)) ?_
          refine wp_if (fun c_33 => ?_) (fun c_33 => ?_)
          ·
            have dc_33 := i_eq c_33
            refine wp_of (uf_X5_markBends_83 _ _ _ _ _ _ _ _ _ _ _ _ _ _) ?_
            have n_35 : (1 : Int32).toInt = 1 := by decide
            refine wp_nm (fun y_19__34 h_y_19__34 => ?_)
            have e_36 := i_addE h_y_19__34.symm (by omega) (by omega)
            exact ih _ _ _ _ _ _ _ _ _ _ _ _ h_0 h_1 h_2 h_3 h_4 h_5 h_6 h_7 nl_l_15__32 (by omega) (by omega) (by omega)
          ·
            have dc_33 := i_ne c_33
            refine wp_nm (fun y_18__37 _ => ?_)
            refine wp_of (uf_X5_markBends_83 _ _ _ _ _ _ _ _ _ _ _ _ _ _) ?_
            have n_39 : (1 : Int32).toInt = 1 := by decide
            refine wp_nm (fun y_19__38 h_y_19__38 => ?_)
            have e_40 := i_addE h_y_19__38.symm (by omega) (by omega)
            exact ih _ _ _ _ _ _ _ _ _ _ _ _ h_0 h_1 h_2 h_3 h_4 h_5 h_6 h_7 nl_l_15__32 (by omega) (by omega) (by omega)

theorem uf_X5_markBends (N : Nat) (x1 : Int32) (x2 : Int32) (x3 : Int32) (v_rows : Int32) (v_cols : Int32) (v_rowOf : List Int32) (v_colOf : List Int32) (v_face : List Int32) (v_worn : List Int32) (v_bend : List Int32) : fX5_markBends N x1 x2 x3 v_rows v_cols v_rowOf v_colOf v_face v_worn v_bend = fX5_markBends_6 N N x1 x2 x3 (0 : Int32) (0 : Int32) v_rows v_cols v_rowOf v_colOf v_face v_worn v_bend := rfl

set_option maxHeartbeats 4000000 in
set_option maxRecDepth 20000 in
theorem sf_X5_markBends {N : Nat} (hN : 700 ≤ N) {x1 : Int32} {x2 : Int32} {x3 : Int32} {v_rows : Int32} {v_cols : Int32} {v_rowOf : List Int32} {v_colOf : List Int32} {v_face : List Int32} {v_worn : List Int32} {v_bend : List Int32} (h_0 : 1 ≤ v_rows.toInt) (h_1 : v_rows.toInt ≤ 4) (h_2 : 1 ≤ v_cols.toInt) (h_3 : v_cols.toInt ≤ 8) (h_4 : v_rowOf.length = 32) (h_5 : v_colOf.length = 32) (h_6 : v_face.length = 32) (h_7 : v_worn.length = 64) (h_8 : v_bend.length = 64) : wp (fX5_markBends N x1 x2 x3 v_rows v_cols v_rowOf v_colOf v_face v_worn v_bend) (cu2 (fun (r : Int32) (wv_bend : List Int32) => wv_bend.length = 64)) := by
  have m3 := (i_fl (a := v_rows) (b := v_cols) (by omega) (by omega) (by omega) (by omega)).2
  refine wp_of (uf_X5_markBends _ _ _ _ _ _ _ _ _ _ _) ?_
  have n_1 : (0 : Int32).toInt = 0 := by decide
  exact sf_X5_markBends_6 hN _ _ _ _ _ _ _ _ _ _ _ _ _ h_0 h_1 h_2 h_3 h_4 h_5 h_6 h_7 h_8 (by omega) (by omega) (by omega)
end
