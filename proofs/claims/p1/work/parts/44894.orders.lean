/-! orders, by, with: for any list of orders -/
theorem sg_sk (X : Int32) (us : List (Int32 × Int32 × Int32)) (o p : List Int32) (E : sg_en 9 X 0 0 0 (mm_zs 7) (mm_zs 7) = some (us, o, p)) (w s a : Int32) : fX9_seeks 700 X w s a 0 0 0 0 0 (mm_zs 7) (mm_zs 7) = some (w, s, a, (sg_fa w s a us 0 (-1)).1, (sg_fa w s a us 0 (-1)).2, o, p) := by
  unfold fX9_seeks
  rw [sg_go 9 X 0 0 0 (mm_zs 7) (mm_zs 7) us o p E w s a 0 (-1)]
  rfl
set_option maxHeartbeats 4000000 in
theorem sg_orders (X y2 : Int32) (C q : Int32) (l f t o p : List Int32) (S : Nat) (us : List (Int32 × Int32 × Int32)) (A : sg_at l S us) (hC : C.toInt = (us.length : Nat)) (hq : q.toInt = (S : Nat)) (hS : mm_ig mm_START X = q) (hI : mm_inb X mm_START.length = true) (h8 : fX8_isStrip 700 X = some true) (h9 : fX9_isStrip 700 X = some true) (H : fX7_howMany 700 X (mm_zs 680) (mm_zs 8) (mm_zs 7) = some (C, l, f, t)) (ht : t.length = 7) (E : sg_en 9 X 0 0 0 (mm_zs 7) (mm_zs 7) = some (us, o, p)) (ok : us.all (sg_ok X) = true) : mm_same (fX8_orders 700 X y2 (mm_zs 680) (mm_zs 8) (mm_zs 7)) (fX9_orders 700 X y2 0 0 0 0 0 (mm_zs 7) (mm_zs 7)) = true := by
  have hb : us.length ≤ 680 := by have := A.2.1; omega
  have tm : (-1 : Int32).toInt = -1 := by decide
  unfold fX8_orders fX9_orders
  rw [h8, h9]
  show mm_same (if y2 = (-1) then mm_bd4 (fX7_howMany 700 X (mm_zs 680) (mm_zs 8) (mm_zs 7)) (fun (a : Int32) (b c d : List Int32) => some (a, b, c, d)) else mm_bd4 (fX7_orderAt 700 X y2 (mm_zs 680) (mm_zs 8) (mm_zs 7)) (fun (a : Int32) (b c d : List Int32) => some (a, b, c, d))) (if (-1) ≤ y2 then mm_bd7 (fX9_seeks 700 X 0 0 y2 0 0 0 0 0 (mm_zs 7) (mm_zs 7)) (fun (w_5 w_6 w_7 w_8 w_9 : Int32) (w_10 w_11 : List Int32) => if y2 = (-1) then some (w_8, w_5, w_6, w_7, w_8, w_9, w_10, w_11) else some (w_9, w_5, w_6, w_7, w_8, w_9, w_10, w_11)) else some ((-1), 0, 0, 0, 0, 0, mm_zs 7, mm_zs 7)) = true
  rw [sg_sk X us o p E 0 0 y2]
  by_cases c : y2 = -1
  · rw [if_pos c, H, if_pos (by rw [c]; decide)]
    show mm_same (some (C, l, f, t)) (if y2 = (-1) then some ((sg_fa 0 0 y2 us 0 (-1)).1, 0, 0, y2, (sg_fa 0 0 y2 us 0 (-1)).1, (sg_fa 0 0 y2 us 0 (-1)).2, o, p) else _) = true
    rw [if_pos c]
    refine decide_eq_true (Int32.toInt_inj.mp ?_)
    show C.toInt = (sg_fa 0 0 y2 us 0 (-1)).1.toInt
    rw [hC, sg_f0c 0 y2 us 0 (-1) 0 (by decide) (by omega), Nat.zero_add]
  · rw [if_neg c]
    unfold fX7_orderAt
    have hn : ¬ y2.toInt = -1 := fun k => c (rg_eq (k.trans tm.symm))
    by_cases c2 : y2.toInt < 0
    · rw [if_pos (rg_p (x := y2) (b := 0) (by decide) c2), if_neg (rg_mn (x := y2) (b := -1) (by decide) (by omega))]
      rfl
    · rw [if_neg (rg_n (x := y2) (b := 0) (by decide) (by omega)), if_pos (rg_mp (x := y2) (b := -1) (by decide) (by omega)), H]
      obtain ⟨j, hj⟩ : ∃ j : Nat, y2.toInt = (j : Nat) := ⟨y2.toInt.toNat, by omega⟩
      obtain ⟨i1, i2⟩ := sg_f0 0 y2 j hj us 0 (-1) 0 (by decide) (by omega)
      show mm_same (mm_bd4 (if C ≤ y2 then some ((-1 : Int32), l, f, t) else mm_ck (mm_inb X mm_START.length) (mm_ck (mm_inb ((mm_ig mm_START X) + y2) l.length) (some ((mm_ig l ((mm_ig mm_START X) + y2)), l, f, t)))) (fun (a : Int32) (b c d : List Int32) => some (a, b, c, d))) (if y2 = (-1) then some ((sg_fa 0 0 y2 us 0 (-1)).1, 0, 0, y2, (sg_fa 0 0 y2 us 0 (-1)).1, (sg_fa 0 0 y2 us 0 (-1)).2, o, p) else some ((sg_fa 0 0 y2 us 0 (-1)).2, 0, 0, y2, (sg_fa 0 0 y2 us 0 (-1)).1, (sg_fa 0 0 y2 us 0 (-1)).2, o, p)) = true
      rw [if_neg c]
      by_cases d : j < us.length
      · obtain ⟨pre, u, post, e1, e2, e3⟩ := i1 ⟨Nat.zero_le j, by omega⟩
        obtain ⟨r1, r2⟩ := sg_rd l S us A pre u post e1 y2 q (by rw [hj, e2, Nat.sub_zero]) hq
        rw [if_neg (fun k => by have := Int32.le_iff_toInt_le.mp k; rw [hC, hj] at this; omega), hI, hS, r1, r2, e3]
        show decide (u.1 = u.1) = true
        exact decide_eq_true rfl
      · rw [if_pos (Int32.le_iff_toInt_le.mpr (by rw [hC, hj]; omega)), i2 (by omega)]
        rfl
set_option maxHeartbeats 4000000 in
theorem sg_by (X y2 y3 : Int32) (bb : Int) (C q : Int32) (l f t o p : List Int32) (S : Nat) (us : List (Int32 × Int32 × Int32)) (A : sg_at l S us) (hC : C.toInt = (us.length : Nat)) (hq : q.toInt = (S : Nat)) (hS : mm_ig mm_START X = q) (hI : mm_inb X mm_START.length = true) (h8 : fX8_isStrip 700 X = some true) (h9 : fX9_isStrip 700 X = some true) (H : fX7_howMany 700 X (mm_zs 680) (mm_zs 8) (mm_zs 7) = some (C, l, f, t)) (ht : t.length = 7) (E : sg_en 9 X 0 0 0 (mm_zs 7) (mm_zs 7) = some (us, o, p)) (ok : us.all (sg_ok X) = true) (hB : ((1 : Int32) <<< ((X - 1) &&& 31)).toInt = bb) (hB1 : (((1 : Int32) <<< ((X - 1) &&& 31)) - 1).toInt64.toInt = bb - 1) : mm_same (fX8_by 700 X y2 y3 (mm_zs 680) (mm_zs 8) (mm_zs 7)) (fX9_by 700 X y2 y3 0 0 0 0 0 (mm_zs 7) (mm_zs 7)) = true := by
  have hb : us.length ≤ 680 := by have := A.2.1; omega
  unfold fX8_by fX9_by
  rw [h8, h9]
  by_cases c1 : y2.toInt < 0
  · rw [if_pos (rg_p (x := y2) (b := 0) (by decide) c1), rg_wf 700 y2 (a := 0) (b := bb - 1) (by decide) hB1 (.inl c1)]
    rfl
  rw [if_neg (rg_n (x := y2) (b := 0) (by decide) (by omega))]
  by_cases c2 : bb ≤ y2.toInt
  · rw [if_pos (rg_mp (x := y2) hB c2), rg_wf 700 y2 (a := 0) (b := bb - 1) (by decide) hB1 (.inr (by omega))]
    rfl
  rw [if_neg (rg_mn (x := y2) hB (by omega)), rg_wt 700 y2 (a := 0) (b := bb - 1) (by decide) hB1 (by omega) (by omega)]
  by_cases c3 : y3.toInt < 0
  · rw [if_pos (rg_p (x := y3) (b := 0) (by decide) c3), rg_wf 700 y3 (a := 0) (b := 1) (by decide) (by decide) (.inl c3)]
    rfl
  rw [if_neg (rg_n (x := y3) (b := 0) (by decide) (by omega))]
  by_cases c4 : 1 < y3.toInt
  · rw [if_neg (rg_en (x := y3) (b := 1) (by decide) c4), rg_wf 700 y3 (a := 0) (b := 1) (by decide) (by decide) (.inr c4)]
    rfl
  rw [if_pos (rg_ep (x := y3) (b := 1) (by decide) (by omega)), rg_wt 700 y3 (a := 0) (b := 1) (by decide) (by decide) (by omega) (by omega), sg_sk X us o p E 1 y2 0]
  by_cases c5 : y3 = 0
  · rw [if_pos c5]
    unfold fX7_howManyBent
    rw [H]
    obtain ⟨a', ha⟩ := sg_hmb X y2 C q l f S us A hC hq hS hI ok us [] 700 0 0 (-1) t rfl (by omega) (by decide) ht
    show mm_same (mm_bd4 (fX7_howManyBent_12 700 700 X y2 0 C 0 l f t) (fun (a : Int32) (b c d : List Int32) => some (a, b, c, d))) (if y3 = 0 then some ((sg_fa 1 y2 0 us 0 (-1)).1, 1, y2, 0, (sg_fa 1 y2 0 us 0 (-1)).1, (sg_fa 1 y2 0 us 0 (-1)).2, o, p) else (if (sg_fa 1 y2 0 us 0 (-1)).1 = 0 then some ((-2 : Int32), 1, y2, 0, (sg_fa 1 y2 0 us 0 (-1)).1, (sg_fa 1 y2 0 us 0 (-1)).2, o, p) else some ((sg_fa 1 y2 0 us 0 (-1)).2, 1, y2, 0, (sg_fa 1 y2 0 us 0 (-1)).1, (sg_fa 1 y2 0 us 0 (-1)).2, o, p))) = true
    rw [ha, if_pos c5]
    exact decide_eq_true rfl
  · rw [if_neg c5]
    unfold fX7_firstBent
    rw [H]
    obtain ⟨a', ha⟩ := sg_fib X y2 C q l f S us A hC hq hS hI ok us [] 700 0 t rfl (by omega) (by decide) ht
    show mm_same (mm_bd4 (fX7_firstBent_9 700 700 X y2 C 0 l f t) (fun (r_9 : Int32) (b c d : List Int32) => if 0 ≤ r_9 then some (r_9, b, c, d) else some ((-2 : Int32), b, c, d))) (if y3 = 0 then some ((sg_fa 1 y2 0 us 0 (-1)).1, 1, y2, 0, (sg_fa 1 y2 0 us 0 (-1)).1, (sg_fa 1 y2 0 us 0 (-1)).2, o, p) else (if (sg_fa 1 y2 0 us 0 (-1)).1 = 0 then some ((-2 : Int32), 1, y2, 0, (sg_fa 1 y2 0 us 0 (-1)).1, (sg_fa 1 y2 0 us 0 (-1)).2, o, p) else some ((sg_fa 1 y2 0 us 0 (-1)).2, 1, y2, 0, (sg_fa 1 y2 0 us 0 (-1)).1, (sg_fa 1 y2 0 us 0 (-1)).2, o, p))) = true
    rw [if_neg c5]
    rcases ha with ha | ⟨c, p0, ha, k1, k2⟩
    · rw [ha.1, ha.2]
      rfl
    · rw [ha, k1, if_neg (rg_qn (b := 0) (by decide) (by omega))]
      show mm_same (if 0 ≤ c then some (c, l, f, a') else some ((-2 : Int32), l, f, a')) _ = true
      rw [if_pos p0]
      exact decide_eq_true rfl
set_option maxHeartbeats 4000000 in
theorem sg_with (X y2 : Int32) (xx : Int) (C q : Int32) (l f t o p : List Int32) (S : Nat) (us : List (Int32 × Int32 × Int32)) (A : sg_at l S us) (hC : C.toInt = (us.length : Nat)) (hq : q.toInt = (S : Nat)) (hS : mm_ig mm_START X = q) (hI : mm_inb X mm_START.length = true) (h8 : fX8_isStrip 700 X = some true) (h9 : fX9_isStrip 700 X = some true) (H : fX7_howMany 700 X (mm_zs 680) (mm_zs 8) (mm_zs 7) = some (C, l, f, t)) (ht : t.length = 7) (E : sg_en 9 X 0 0 0 (mm_zs 7) (mm_zs 7) = some (us, o, p)) (ok : us.all (sg_ok X) = true) (hX : X.toInt = xx) (hX1 : (X - 1).toInt64.toInt = xx - 1) : mm_same (fX8_with 700 X y2 (mm_zs 680) (mm_zs 8) (mm_zs 7)) (fX9_with 700 X y2 0 0 0 0 0 (mm_zs 7) (mm_zs 7)) = true := by
  have hb : us.length ≤ 680 := by have := A.2.1; omega
  unfold fX8_with fX9_with
  rw [h8, h9]
  by_cases c1 : y2.toInt < 0
  · rw [if_pos (rg_p (x := y2) (b := 0) (by decide) c1), rg_wf 700 y2 (a := 0) (b := xx - 1) (by decide) hX1 (.inl c1)]
    rfl
  rw [if_neg (rg_n (x := y2) (b := 0) (by decide) (by omega))]
  by_cases c2 : xx ≤ y2.toInt
  · rw [if_neg (rg_n (x := y2) hX c2), rg_wf 700 y2 (a := 0) (b := xx - 1) (by decide) hX1 (.inr (by omega))]
    rfl
  rw [if_pos (rg_p (x := y2) hX (by omega)), rg_wt 700 y2 (a := 0) (b := xx - 1) (by decide) hX1 (by omega) (by omega), sg_sk X us o p E 2 y2 0]
  unfold fX7_howManyTopped
  rw [H]
  have ha := sg_hmt X y2 C q l f t S us A hC hq hS hI ok us [] 700 0 0 (-1) rfl (by omega) (by decide)
  show mm_same (mm_bd4 (fX7_howManyTopped_12 700 700 X y2 0 C 0 l f t) (fun (a : Int32) (b c d : List Int32) => some (a, b, c, d))) (some ((sg_fa 2 y2 0 us 0 (-1)).1, 2, y2, 0, (sg_fa 2 y2 0 us 0 (-1)).1, (sg_fa 2 y2 0 us 0 (-1)).2, o, p)) = true
  rw [ha]
  exact decide_eq_true rfl
