/-! copies, in blocks -/
def cq_j (l : List Int32) (a b j : Nat) : List Int32 := l.take b ++ ((l.drop a).take j ++ l.drop (b + j))
theorem cq_0 (l : List Int32) (a b : Nat) : cq_j l a b 0 = l := by
  unfold cq_j
  rw [List.take_zero, List.nil_append, Nat.add_zero, List.take_append_drop]
theorem cq_len (l : List Int32) (a b j : Nat) (h1 : a + j ≤ l.length) (h2 : b + j ≤ l.length) : (cq_j l a b j).length = l.length := by
  unfold cq_j
  rw [List.length_append, List.length_append, List.length_take, List.length_take, List.length_drop, List.length_drop]
  omega
theorem cq_get (l : List Int32) (a b j : Nat) (h1 : a + j < b) (h2 : b + j < l.length) : (cq_j l a b j).getD (a + j) 0 = l.getD (a + j) 0 := by
  unfold cq_j
  rw [List.getD_eq_getElem?_getD, List.getD_eq_getElem?_getD, List.getElem?_append_left (by rw [List.length_take]; omega), List.getElem?_take_of_lt h1]
theorem cq_set (l : List Int32) (a b j : Nat) (h1 : a + j < b) (h2 : b + j < l.length) : (cq_j l a b j).set (b + j) (l.getD (a + j) 0) = cq_j l a b (j + 1) := by
  unfold cq_j
  have lb : (l.take b).length = b := by rw [List.length_take]; omega
  have lj : ((l.drop a).take j).length = j := by rw [List.length_take, List.length_drop]; omega
  rw [List.set_append_right _ _ (by omega), lb, Nat.add_sub_cancel_left, List.set_append_right _ _ (by omega), lj, Nat.sub_self]
  have d : l.drop (b + j) = l[b + j] :: l.drop (b + j + 1) := List.drop_eq_getElem_cons h2
  have g : l.getD (a + j) 0 = l[a + j] := by rw [List.getD_eq_getElem?_getD, List.getElem?_eq_getElem (by omega)]; rfl
  have t : (l.drop a).take (j + 1) = (l.drop a).take j ++ [l[a + j]] := by
    rw [List.take_succ_eq_append_getElem (by rw [List.length_drop]; omega), List.getElem_drop]
  rw [d, g, t, List.set_cons_zero, List.append_assoc]
  rfl
theorem cq_st (l : List Int32) (A B j : Nat) (ia ib : Int32) (ha : ia.toInt = (A + j : Nat)) (hb : ib.toInt = (B + j : Nat)) (hab : A + j < B) (hl : B + j < l.length) : mm_inb ia (cq_j l A B j).length = true ∧ mm_ig (cq_j l A B j) ia = l.getD (A + j) 0 ∧ mm_inb ib (cq_j l A B j).length = true ∧ mm_is (cq_j l A B j) ib (l.getD (A + j) 0) = cq_j l A B (j + 1) := by
  have ll := cq_len l A B j (by omega) (by omega)
  have ta : ia.toNatClampNeg = A + j := by
    show ia.toInt.toNat = _
    omega
  have tb : ib.toNatClampNeg = B + j := by
    show ib.toInt.toNat = _
    omega
  refine ⟨sb_inb _ _ (by omega) (by omega), ?_, sb_inb _ _ (by omega) (by omega), ?_⟩
  · unfold mm_ig
    rw [ta]
    exact cq_get l A B j hab hl
  · unfold mm_is
    rw [tb]
    exact cq_set l A B j hab hl
theorem cq_ix64 (x1 x3 : Int32) (i j : Nat) (h1 : x1.toInt = (i : Nat)) (h3 : x3.toInt = (j : Nat)) (hi : i < 8) (hj : j < 64) : ((64 : Int32) * x1 + x3).toInt = (64 * i + j : Nat) := by
  have t : (64 : Int32).toInt = 64 := by decide
  rw [Int32.toInt_add, Int32.toInt_mul, t, h1, h3, Int.bmod_eq_of_le (n := 64 * (i : Int)) (by omega) (by omega), Int.bmod_eq_of_le (by omega) (by omega)]
  omega
theorem cq_ix32 (x1 x3 : Int32) (i j : Nat) (h1 : x1.toInt = (i : Nat)) (h3 : x3.toInt = (j : Nat)) (hi : i < 8) (hj : j < 32) : ((32 : Int32) * x1 + x3).toInt = (32 * i + j : Nat) := by
  have t : (32 : Int32).toInt = 32 := by decide
  rw [Int32.toInt_add, Int32.toInt_mul, t, h1, h3, Int.bmod_eq_of_le (n := 32 * (i : Int)) (by omega) (by omega), Int.bmod_eq_of_le (by omega) (by omega)]
  omega
theorem cq_ck {α : Type} (x : Option α) : mm_ck true x = x := rfl
theorem cq_128 (x1 x2 : Int32) (i : Nat) (hi : i < 5) (h1 : x1.toInt = (i : Nat)) (h2 : x2.toInt = (i + 1 : Nat)) (sR sC r c b f u v : List Int32) (lu : u.length = 384) (lv : v.length = 384) : ∀ (d n j : Nat) (x3 : Int32), d < n → j + d = 64 → x3.toInt = (j : Nat) → fX9_copies_128 700 n x1 x2 x3 sR sC r c b f (cq_j u (64 * i) (64 * (i + 1)) j) (cq_j v (64 * i) (64 * (i + 1)) j) = some (sR, sC, r, c, b, f, cq_j u (64 * i) (64 * (i + 1)) 64, cq_j v (64 * i) (64 * (i + 1)) 64) := by
  intro d
  induction d with
  | zero =>
    intro n j x3 hn hj h3
    have hj' : j = 64 := by omega
    subst hj'
    cases n with
    | zero => omega
    | succ n =>
      rw [fX9_copies_128]
      dsimp only
      rw [if_pos (rg_mp (b := 64) (by decide) (by omega))]
  | succ d ih =>
    intro n j x3 hn hj h3
    cases n with
    | zero => omega
    | succ n =>
      have ea := cq_ix64 x1 x3 i j h1 h3 (by omega) (by omega)
      have eb := cq_ix64 x2 x3 (i + 1) j h2 h3 (by omega) (by omega)
      obtain ⟨s1, s2, s3, s4⟩ := cq_st u (64 * i) (64 * (i + 1)) j _ _ ea eb (by omega) (by omega)
      obtain ⟨t1, t2, t3, t4⟩ := cq_st v (64 * i) (64 * (i + 1)) j _ _ ea eb (by omega) (by omega)
      have k := sg_inc x3 j h3 (by omega)
      rw [fX9_copies_128]
      dsimp only [mm_nm]
      rw [if_neg (rg_mn (b := 64) (by decide) (by omega)), s1, cq_ck, s3, cq_ck, s2, s4, t1, cq_ck, t3, cq_ck, t2, t4]
      exact ih n (j + 1) (x3 + 1) (by omega) (by omega) k
theorem cq_26 (x1 x2 : Int32) (i : Nat) (hi : i < 5) (h1 : x1.toInt = (i : Nat)) (h2 : x2.toInt = (i + 1 : Nat)) (sR sC r c b f u v : List Int32) (lr : r.length = 192) (lc : c.length = 192) (lb : b.length = 192) (lf : f.length = 192) (lu : u.length = 384) (lv : v.length = 384) : ∀ (d n j : Nat) (x3 : Int32), d < n → j + d = 32 → x3.toInt = (j : Nat) → fX9_copies_26 700 n x1 x2 x3 sR sC (cq_j r (32 * i) (32 * (i + 1)) j) (cq_j c (32 * i) (32 * (i + 1)) j) (cq_j b (32 * i) (32 * (i + 1)) j) (cq_j f (32 * i) (32 * (i + 1)) j) u v = some (sR, sC, cq_j r (32 * i) (32 * (i + 1)) 32, cq_j c (32 * i) (32 * (i + 1)) 32, cq_j b (32 * i) (32 * (i + 1)) 32, cq_j f (32 * i) (32 * (i + 1)) 32, cq_j u (64 * i) (64 * (i + 1)) 64, cq_j v (64 * i) (64 * (i + 1)) 64) := by
  intro d
  induction d with
  | zero =>
    intro n j x3 hn hj h3
    have hj' : j = 32 := by omega
    subst hj'
    cases n with
    | zero => omega
    | succ n =>
      rw [fX9_copies_26]
      dsimp only
      rw [if_pos (rg_mp (b := 32) (by decide) (by omega))]
      have h := cq_128 x1 x2 i hi h1 h2 sR sC (cq_j r (32 * i) (32 * (i + 1)) 32) (cq_j c (32 * i) (32 * (i + 1)) 32) (cq_j b (32 * i) (32 * (i + 1)) 32) (cq_j f (32 * i) (32 * (i + 1)) 32) u v lu lv 64 700 0 0 (by omega) (by omega) (by decide)
      rw [cq_0, cq_0] at h
      exact h
  | succ d ih =>
    intro n j x3 hn hj h3
    cases n with
    | zero => omega
    | succ n =>
      have ea := cq_ix32 x1 x3 i j h1 h3 (by omega) (by omega)
      have eb := cq_ix32 x2 x3 (i + 1) j h2 h3 (by omega) (by omega)
      obtain ⟨s1, s2, s3, s4⟩ := cq_st r (32 * i) (32 * (i + 1)) j _ _ ea eb (by omega) (by omega)
      obtain ⟨t1, t2, t3, t4⟩ := cq_st c (32 * i) (32 * (i + 1)) j _ _ ea eb (by omega) (by omega)
      obtain ⟨p1, p2, p3, p4⟩ := cq_st b (32 * i) (32 * (i + 1)) j _ _ ea eb (by omega) (by omega)
      obtain ⟨q1, q2, q3, q4⟩ := cq_st f (32 * i) (32 * (i + 1)) j _ _ ea eb (by omega) (by omega)
      have k := sg_inc x3 j h3 (by omega)
      rw [fX9_copies_26]
      dsimp only [mm_nm]
      rw [if_neg (rg_mn (b := 32) (by decide) (by omega)), s1, cq_ck, s3, cq_ck, s2, s4, t1, cq_ck, t3, cq_ck, t2, t4, p1, cq_ck, p3, cq_ck, p2, p4, q1, cq_ck, q3, cq_ck, q2, q4]
      exact ih n (j + 1) (x3 + 1) (by omega) (by omega) k
/-- the same copy, in blocks -/
def c9_copies (x1 x2 : Int32) (sR sC r c b f u v : List Int32) : Option (List Int32 × List Int32 × List Int32 × List Int32 × List Int32 × List Int32 × List Int32 × List Int32) := if x2 = x1 + 1 ∧ 0 ≤ x1.toInt ∧ x1.toInt < 5 ∧ sR.length = 6 ∧ sC.length = 6 ∧ r.length = 192 ∧ c.length = 192 ∧ b.length = 192 ∧ f.length = 192 ∧ u.length = 384 ∧ v.length = 384 then some (mm_is sR x2 (mm_ig sR x1), mm_is sC x2 (mm_ig sC x1), cq_j r (32 * x1.toInt.toNat) (32 * (x1.toInt.toNat + 1)) 32, cq_j c (32 * x1.toInt.toNat) (32 * (x1.toInt.toNat + 1)) 32, cq_j b (32 * x1.toInt.toNat) (32 * (x1.toInt.toNat + 1)) 32, cq_j f (32 * x1.toInt.toNat) (32 * (x1.toInt.toNat + 1)) 32, cq_j u (64 * x1.toInt.toNat) (64 * (x1.toInt.toNat + 1)) 64, cq_j v (64 * x1.toInt.toNat) (64 * (x1.toInt.toNat + 1)) 64) else none
theorem cq_all (x1 x2 : Int32) (sR sC r c b f u v : List Int32) (t : List Int32 × List Int32 × List Int32 × List Int32 × List Int32 × List Int32 × List Int32 × List Int32) (h : c9_copies x1 x2 sR sC r c b f u v = some t) : fX9_copies 700 x1 x2 sR sC r c b f u v = some t := by
  unfold c9_copies at h
  by_cases k : x2 = x1 + 1 ∧ 0 ≤ x1.toInt ∧ x1.toInt < 5 ∧ sR.length = 6 ∧ sC.length = 6 ∧ r.length = 192 ∧ c.length = 192 ∧ b.length = 192 ∧ f.length = 192 ∧ u.length = 384 ∧ v.length = 384
  · rw [if_pos k] at h
    injection h with h
    obtain ⟨k1, k2, k3, k4, k5, k6, k7, k8, k9, k10, k11⟩ := k
    obtain ⟨i, hi⟩ : ∃ i : Nat, x1.toInt = (i : Nat) := ⟨x1.toInt.toNat, by omega⟩
    have hi5 : i < 5 := by omega
    have h2 : x2.toInt = (i + 1 : Nat) := by rw [k1]; exact sg_inc x1 i hi (by omega)
    have hn : x1.toInt.toNat = i := by omega
    rw [hn] at h
    unfold fX9_copies
    have b1 : mm_inb x1 sR.length = true := sb_inb _ _ k2 (by omega)
    have b2 : mm_inb x2 sR.length = true := sb_inb _ _ (by omega) (by omega)
    have b3 : mm_inb x1 sC.length = true := sb_inb _ _ k2 (by omega)
    have b4 : mm_inb x2 sC.length = true := sb_inb _ _ (by omega) (by omega)
    dsimp only [mm_nm]
    rw [b1, cq_ck, b2, cq_ck, b3, cq_ck, b4, cq_ck]
    have g := cq_26 x1 x2 i hi5 hi h2 (mm_is sR x2 (mm_ig sR x1)) (mm_is sC x2 (mm_ig sC x1)) r c b f u v k6 k7 k8 k9 k10 k11 32 700 0 0 (by omega) (by omega) (by decide)
    rw [cq_0, cq_0, cq_0, cq_0] at g
    rw [g, ← h]
  · rw [if_neg k] at h
    cases h
