/-! how the class goes through its orders -/
theorem sg_fill7 (l : List Int32) (h : l.length = 7) : fJ7_fill_53178 700 (-1) l = some (List.replicate 7 (-1)) := by
  obtain ⟨a0, a1, a2, a3, a4, a5, a6, e⟩ := sb_l7 l h
  subst e
  rfl
theorem sg_lay7 (X y : Int32) (l : List Int32) (h : l.length = 7) : fX7_lay 700 X y l = fX7_lay 700 X y (mm_zs 7) := by
  unfold fX7_lay
  rw [sg_fill7 l h, sb_fill]
/-- what is asked of an entry: it is laid, and its bends and its top are so -/
def sg_ok (X : Int32) (u : Int32 × Int32 × Int32) : Bool := (match fX7_lay 700 X u.1 (mm_zs 7) with
  | some (true, a) => decide (fX7_bits 700 X a = some u.2.1) && decide (a.length = 7)
  | _ => false) && (decide (0 ≤ u.1) && decide (mm_rem u.1 10 = u.2.2 + 1))
theorem sg_oks (X : Int32) (u : Int32 × Int32 × Int32) (h : sg_ok X u = true) : (∃ a, fX7_lay 700 X u.1 (mm_zs 7) = some (true, a) ∧ fX7_bits 700 X a = some u.2.1 ∧ a.length = 7) ∧ 0 ≤ u.1 ∧ mm_rem u.1 10 = u.2.2 + 1 := by
  unfold sg_ok at h
  rw [Bool.and_eq_true, Bool.and_eq_true] at h
  refine ⟨?_, of_decide_eq_true h.2.1, of_decide_eq_true h.2.2⟩
  have h1 := h.1
  cases e : fX7_lay 700 X u.1 (mm_zs 7) with
  | none => rw [e] at h1; cases h1
  | some t =>
    obtain ⟨b, a⟩ := t
    cases b with
    | false => rw [e] at h1; cases h1
    | true =>
      rw [e] at h1
      have h2 := (Bool.and_eq_true _ _ ▸ h1 : _ ∧ _)
      exact ⟨a, rfl, of_decide_eq_true h2.1, of_decide_eq_true h2.2⟩
theorem sg_h0 (s : Int32) (u : Int32 × Int32 × Int32) : sg_hit 0 s u = true := rfl
theorem sg_hit1 (s : Int32) (u : Int32 × Int32 × Int32) : sg_hit 1 s u = decide (u.2.1 = s) := by
  unfold sg_hit
  rw [decide_eq_false (p := (1 : Int32) = 0) (by decide), decide_eq_true (p := (1 : Int32) = 1) rfl, decide_eq_false (p := (1 : Int32) = 2) (by decide), Bool.false_or, Bool.true_and, Bool.false_and, Bool.or_false]
theorem sg_hit2 (s : Int32) (u : Int32 × Int32 × Int32) : sg_hit 2 s u = decide (u.2.2 = s) := by
  unfold sg_hit
  rw [decide_eq_false (p := (2 : Int32) = 0) (by decide), decide_eq_false (p := (2 : Int32) = 1) (by decide), decide_eq_true (p := (2 : Int32) = 2) rfl, Bool.false_or, Bool.true_and, Bool.false_and, Bool.false_or]
/-- the place of an entry in the class's row -/
def sg_at (l : List Int32) (S : Nat) (us : List (Int32 × Int32 × Int32)) : Prop := l.length = 680 ∧ S + us.length ≤ 680 ∧ ∀ (pre : List (Int32 × Int32 × Int32)) (u : Int32 × Int32 × Int32) (post : List (Int32 × Int32 × Int32)), us = pre ++ u :: post → l.getD (S + pre.length) 0 = u.1
theorem sg_ati (S n : Nat) (us : List (Int32 × Int32 × Int32)) (h : S + us.length + n = 680) : sg_at (mm_zs S ++ (us.map (fun u => u.1) ++ mm_zs n)) S us := by
  refine ⟨?_, by omega, ?_⟩
  · unfold mm_zs
    rw [List.length_append, List.length_append, List.length_replicate, List.length_map, List.length_replicate]
    omega
  · intro pre u post e
    subst e
    unfold mm_zs
    rw [List.getD_eq_getElem?_getD, List.getElem?_append_right (by rw [List.length_replicate]; omega), List.length_replicate, Nat.add_sub_cancel_left, List.getElem?_append_left (by rw [List.length_map, List.length_append, List.length_cons]; omega), List.getElem?_map, List.getElem?_append_right (Nat.le_refl _), Nat.sub_self]
    rfl
/-- reading an entry -/
theorem sg_rd (l : List Int32) (S : Nat) (us : List (Int32 × Int32 × Int32)) (A : sg_at l S us) (pre : List (Int32 × Int32 × Int32)) (u : Int32 × Int32 × Int32) (post : List (Int32 × Int32 × Int32)) (e : us = pre ++ u :: post) (i q : Int32) (hi : i.toInt = (pre.length : Nat)) (hq : q.toInt = (S : Nat)) : mm_inb (q + i) l.length = true ∧ mm_ig l (q + i) = u.1 := by
  obtain ⟨a1, a2, a3⟩ := A
  have hl : us.length = pre.length + 1 + post.length := by
    rw [e, List.length_append, List.length_cons]; omega
  have t : (q + i).toInt = (S + pre.length : Nat) := by
    rw [Int32.toInt_add, hi, hq, Int.bmod_eq_of_le (by omega) (by omega)]
    omega
  refine ⟨sb_inb _ _ (by omega) (by omega), ?_⟩
  have t2 : (q + i).toNatClampNeg = S + pre.length := by
    show (q + i).toInt.toNat = _
    omega
  unfold mm_ig
  rw [t2]
  exact a3 pre u post e
theorem sg_inc (i : Int32) (k : Nat) (h : i.toInt = (k : Nat)) (hk : k < 1000) : (i + 1).toInt = (k + 1 : Nat) := by
  have t1 : (1 : Int32).toInt = 1 := by decide
  rw [Int32.toInt_add, h, t1, Int.bmod_eq_of_le (by omega) (by omega)]
  omega
/-- is an entry bent so -/
theorem sg_bent (X b : Int32) (l a : List Int32) (S : Nat) (us : List (Int32 × Int32 × Int32)) (A : sg_at l S us) (q : Int32) (hq : q.toInt = (S : Nat)) (hS : mm_ig mm_START X = q) (hI : mm_inb X mm_START.length = true) (pre : List (Int32 × Int32 × Int32)) (u : Int32 × Int32 × Int32) (post : List (Int32 × Int32 × Int32)) (e : us = pre ++ u :: post) (ok : sg_ok X u = true) (i : Int32) (hi : i.toInt = (pre.length : Nat)) (ha : a.length = 7) : ∃ a', a'.length = 7 ∧ fX7_isBent 700 X i b l a = some (decide (u.2.1 = b), a') := by
  obtain ⟨r1, r2⟩ := sg_rd l S us A pre u post e i q hi hq
  obtain ⟨⟨a', k1, k2, k3⟩, _, _⟩ := sg_oks X u ok
  refine ⟨a', k3, ?_⟩
  unfold fX7_isBent
  rw [hI, hS, r1, r2, sg_lay7 X u.1 a ha, k1]
  show mm_bd1 (fX7_bits 700 X a') (fun r_7 : Int32 => if r_7 = b then some (true, a') else some (false, a')) = _
  rw [k2]
  show (if u.2.1 = b then some (true, a') else some (false, a')) = _
  by_cases c : u.2.1 = b
  · rw [if_pos c, decide_eq_true c]
  · rw [if_neg c, decide_eq_false c]
theorem sg_hmb (X b C q : Int32) (l f : List Int32) (S : Nat) (us : List (Int32 × Int32 × Int32)) (A : sg_at l S us) (hC : C.toInt = (us.length : Nat)) (hq : q.toInt = (S : Nat)) (hS : mm_ig mm_START X = q) (hI : mm_inb X mm_START.length = true) (ok : us.all (sg_ok X) = true) : ∀ (vs pre : List (Int32 × Int32 × Int32)) (N : Nat) (x3 i fo : Int32) (a : List Int32), us = pre ++ vs → vs.length < N → i.toInt = (pre.length : Nat) → a.length = 7 → ∃ a', fX7_howManyBent_12 700 N X b x3 C i l f a = some ((sg_fa 1 b 0 vs x3 fo).1, l, f, a') := by
  intro vs
  induction vs with
  | nil =>
    intro pre N x3 i fo a e hN hi ha
    cases N with
    | zero => cases hN
    | succ N =>
      rw [fX7_howManyBent_12]
      dsimp only
      rw [List.append_nil] at e
      rw [if_pos (Int32.le_iff_toInt_le.mpr (by rw [hC, hi, e]; exact Int.le_refl _))]
      exact ⟨a, rfl⟩
  | cons u vs ih =>
    intro pre N x3 i fo a e hN hi ha
    have hl : us.length = pre.length + 1 + vs.length := by
      rw [e, List.length_append, List.length_cons]; omega
    have hb : us.length ≤ 680 := by have := A.2.1; omega
    cases N with
    | zero => cases hN
    | succ N =>
      rw [fX7_howManyBent_12]
      dsimp only
      have c : ¬ C ≤ i := fun k => by
        have := Int32.le_iff_toInt_le.mp k
        rw [hC, hi] at this
        omega
      obtain ⟨a', la, hx⟩ := sg_bent X b l a S us A q hq hS hI pre u vs e (List.all_eq_true.mp ok u (by rw [e]; exact List.mem_append_right _ List.mem_cons_self)) i hi ha
      have hi1 : (i + 1).toInt = ((pre ++ [u]).length : Nat) := by
        rw [sg_inc i pre.length hi (by omega), List.length_append]; rfl
      have e' : us = (pre ++ [u]) ++ vs := by rw [e, List.append_assoc]; rfl
      have hN' : vs.length < N := by rw [List.length_cons] at hN; omega
      rw [if_neg c, hx, sg_fcn, sg_hit1]
      cases q : decide (u.2.1 = b) with
      | true =>
        rw [if_pos rfl]
        exact ih (pre ++ [u]) N (x3 + 1) (i + 1) _ a' e' hN' hi1 la
      | false =>
        rw [if_neg (by decide)]
        exact ih (pre ++ [u]) N x3 (i + 1) fo a' e' hN' hi1 la
theorem sg_fib (X b C q : Int32) (l f : List Int32) (S : Nat) (us : List (Int32 × Int32 × Int32)) (A : sg_at l S us) (hC : C.toInt = (us.length : Nat)) (hq : q.toInt = (S : Nat)) (hS : mm_ig mm_START X = q) (hI : mm_inb X mm_START.length = true) (ok : us.all (sg_ok X) = true) : ∀ (vs pre : List (Int32 × Int32 × Int32)) (N : Nat) (i : Int32) (a : List Int32), us = pre ++ vs → vs.length < N → i.toInt = (pre.length : Nat) → a.length = 7 → ∃ a', (fX7_firstBent_9 700 N X b C i l f a = some (-1, l, f, a') ∧ sg_fa 1 b 0 vs 0 (-1) = (0, -1)) ∨ ∃ c : Int32, 0 ≤ c ∧ fX7_firstBent_9 700 N X b C i l f a = some (c, l, f, a') ∧ (sg_fa 1 b 0 vs 0 (-1)).2 = c ∧ 1 ≤ (sg_fa 1 b 0 vs 0 (-1)).1.toInt := by
  have later : ∀ (vs : List (Int32 × Int32 × Int32)) (fm fo : Int32) (k : Nat), fm.toInt = (k : Nat) → 1 ≤ k → k + vs.length < 1000 → (sg_fa 1 b 0 vs fm fo).2 = fo ∧ 1 ≤ (sg_fa 1 b 0 vs fm fo).1.toInt := by
    intro vs
    induction vs with
    | nil => intro fm fo k h1 h2 _; exact ⟨rfl, by show 1 ≤ fm.toInt; omega⟩
    | cons u vs ih =>
      intro fm fo k h1 h2 h3
      rw [List.length_cons] at h3
      rw [sg_fcn]
      by_cases c : sg_hit 1 b u = true
      · rw [if_pos c, if_neg (rg_qn (b := 0) (by decide) (by omega))]
        exact ih (fm + 1) fo (k + 1) (sg_inc fm k h1 (by omega)) (by omega) (by omega)
      · rw [if_neg c]
        exact ih fm fo k h1 h2 (by omega)
  intro vs
  induction vs with
  | nil =>
    intro pre N i a e hN hi ha
    cases N with
    | zero => cases hN
    | succ N =>
      rw [fX7_firstBent_9]
      dsimp only
      rw [List.append_nil] at e
      rw [if_pos (Int32.le_iff_toInt_le.mpr (by rw [hC, hi, e]; exact Int.le_refl _))]
      exact ⟨a, .inl ⟨rfl, rfl⟩⟩
  | cons u vs ih =>
    intro pre N i a e hN hi ha
    have hl : us.length = pre.length + 1 + vs.length := by
      rw [e, List.length_append, List.length_cons]; omega
    have hb : us.length ≤ 680 := by have := A.2.1; omega
    cases N with
    | zero => cases hN
    | succ N =>
      rw [fX7_firstBent_9]
      dsimp only
      have c : ¬ C ≤ i := fun k => by
        have := Int32.le_iff_toInt_le.mp k
        rw [hC, hi] at this
        omega
      have oku := List.all_eq_true.mp ok u (by rw [e]; exact List.mem_append_right _ List.mem_cons_self)
      obtain ⟨a', la, hx⟩ := sg_bent X b l a S us A q hq hS hI pre u vs e oku i hi ha
      obtain ⟨r1, r2⟩ := sg_rd l S us A pre u vs e i q hi hq
      have hi1 : (i + 1).toInt = ((pre ++ [u]).length : Nat) := by
        rw [sg_inc i pre.length hi (by omega), List.length_append]; rfl
      have e' : us = (pre ++ [u]) ++ vs := by rw [e, List.append_assoc]; rfl
      have hN' : vs.length < N := by rw [List.length_cons] at hN; omega
      rw [if_neg c, hx, sg_fcn, sg_hit1]
      cases q2 : decide (u.2.1 = b) with
      | true =>
        refine ⟨a', .inr ⟨u.1, (sg_oks X u oku).2.1, ?_, ?_⟩⟩
        · show mm_ck (mm_inb X mm_START.length) (mm_ck (mm_inb ((mm_ig mm_START X) + i) l.length) (some (mm_ig l ((mm_ig mm_START X) + i), l, f, a'))) = _
          rw [hI, hS, r1, r2]
          rfl
        · rw [if_pos rfl, if_pos rfl]
          exact later vs (0 + 1) u.1 1 (by decide) (by omega) (by omega)
      | false =>
        rw [if_neg (by decide)]
        exact ih (pre ++ [u]) N (i + 1) a' e' hN' hi1 la
theorem sg_canc (x y : Int32) (h : x + 1 = y + 1) : x = y := by
  have k : x + 1 - 1 = y + 1 - 1 := by rw [h]
  rw [Int32.add_sub_cancel, Int32.add_sub_cancel] at k
  exact k
theorem sg_hmt (X x2 C q : Int32) (l f a : List Int32) (S : Nat) (us : List (Int32 × Int32 × Int32)) (A : sg_at l S us) (hC : C.toInt = (us.length : Nat)) (hq : q.toInt = (S : Nat)) (hS : mm_ig mm_START X = q) (hI : mm_inb X mm_START.length = true) (ok : us.all (sg_ok X) = true) : ∀ (vs pre : List (Int32 × Int32 × Int32)) (N : Nat) (x3 i fo : Int32), us = pre ++ vs → vs.length < N → i.toInt = (pre.length : Nat) → fX7_howManyTopped_12 700 N X x2 x3 C i l f a = some ((sg_fa 2 x2 0 vs x3 fo).1, l, f, a) := by
  intro vs
  induction vs with
  | nil =>
    intro pre N x3 i fo e hN hi
    cases N with
    | zero => cases hN
    | succ N =>
      rw [fX7_howManyTopped_12]
      dsimp only
      rw [List.append_nil] at e
      rw [if_pos (Int32.le_iff_toInt_le.mpr (by rw [hC, hi, e]; exact Int.le_refl _))]
      rfl
  | cons u vs ih =>
    intro pre N x3 i fo e hN hi
    have hl : us.length = pre.length + 1 + vs.length := by
      rw [e, List.length_append, List.length_cons]; omega
    have hb : us.length ≤ 680 := by have := A.2.1; omega
    cases N with
    | zero => cases hN
    | succ N =>
      rw [fX7_howManyTopped_12]
      dsimp only
      have c : ¬ C ≤ i := fun k => by
        have := Int32.le_iff_toInt_le.mp k
        rw [hC, hi] at this
        omega
      have oku := List.all_eq_true.mp ok u (by rw [e]; exact List.mem_append_right _ List.mem_cons_self)
      obtain ⟨r1, r2⟩ := sg_rd l S us A pre u vs e i q hi hq
      have hi1 : (i + 1).toInt = ((pre ++ [u]).length : Nat) := by
        rw [sg_inc i pre.length hi (by omega), List.length_append]; rfl
      have e' : us = (pre ++ [u]) ++ vs := by rw [e, List.append_assoc]; rfl
      have hN' : vs.length < N := by rw [List.length_cons] at hN; omega
      have k3 := (sg_oks X u oku).2.2
      rw [if_neg c, hI, hS, r1, r2, k3, sg_fcn, sg_hit2]
      have nz : mm_nz 10 = true := rfl
      rw [nz]
      by_cases t : u.2.2 = x2
      · rw [decide_eq_true t, if_pos rfl, t]
        show (if x2 + 1 = x2 + 1 then _ else _) = _
        rw [if_pos rfl]
        exact ih (pre ++ [u]) N (x3 + 1) (i + 1) _ e' hN' hi1
      · rw [decide_eq_false t, if_neg (fun k => t (sg_canc u.2.2 x2 k))]
        exact ih (pre ++ [u]) N x3 (i + 1) fo e' hN' hi1
theorem sg_f0c (s a : Int32) : ∀ (us : List (Int32 × Int32 × Int32)) (fm fo : Int32) (k : Nat), fm.toInt = (k : Nat) → k + us.length < 1000 → (sg_fa 0 s a us fm fo).1.toInt = (k + us.length : Nat) := by
  intro us
  induction us with
  | nil => intro fm fo k h _; exact h
  | cons u us ih =>
    intro fm fo k h hk
    rw [List.length_cons] at hk
    rw [sg_fcn, sg_h0, if_pos rfl, ih (fm + 1) _ (k + 1) (sg_inc fm k h (by omega)) (by omega), List.length_cons]
    omega
theorem sg_f0 (s a : Int32) (j : Nat) (ha : a.toInt = (j : Nat)) : ∀ (us : List (Int32 × Int32 × Int32)) (fm fo : Int32) (k : Nat), fm.toInt = (k : Nat) → k + us.length < 1000 → (k ≤ j ∧ j < k + us.length → ∃ pre u post, us = pre ++ u :: post ∧ pre.length = j - k ∧ (sg_fa 0 s a us fm fo).2 = u.1) ∧ (¬ (k ≤ j ∧ j < k + us.length) → (sg_fa 0 s a us fm fo).2 = fo) := by
  intro us
  induction us with
  | nil =>
    intro fm fo k h hk
    refine ⟨fun c => ?_, fun _ => rfl⟩
    exact absurd c.2 (by show ¬ j < k + 0; omega)
  | cons u us ih =>
    intro fm fo k h hk
    rw [List.length_cons] at hk
    have e : sg_fa 0 s a (u :: us) fm fo = sg_fa 0 s a us (fm + 1) (if fm = a then u.1 else fo) := by
      rw [sg_fcn, sg_h0, if_pos rfl]
    rw [e, List.length_cons]
    obtain ⟨i1, i2⟩ := ih (fm + 1) (if fm = a then u.1 else fo) (k + 1) (sg_inc fm k h (by omega)) (by omega)
    by_cases c : k = j
    · have ef : fm = a := Int32.toInt_inj.mp (by rw [h, ha, c])
      refine ⟨fun _ => ⟨[], u, us, rfl, by rw [c]; exact (Nat.sub_self j).symm, ?_⟩, fun n => absurd ⟨by omega, by omega⟩ n⟩
      rw [i2 (by omega), if_pos ef]
    · have ef : ¬ fm = a := fun q => c (by rw [q, ha] at h; omega)
      rw [if_neg ef] at i1 i2 ⊢
      refine ⟨fun q => ?_, fun q => i2 (by omega)⟩
      obtain ⟨pre, v, post, e1, e2, e3⟩ := i1 (by omega)
      exact ⟨u :: pre, v, post, by rw [e1]; rfl, by rw [List.length_cons, e2]; omega, e3⟩
