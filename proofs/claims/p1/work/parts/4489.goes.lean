/-! how the reference goes through the orders -/
def sg_hit (w s : Int32) (u : Int32 × Int32 × Int32) : Bool := decide (w = 0) || ((decide (w = 1) && decide (u.2.1 = s)) || (decide (w = 2) && decide (u.2.2 = s)))
def sg_fa (w s a : Int32) : List (Int32 × Int32 × Int32) → Int32 → Int32 → Int32 × Int32
  | [], fm, fo => (fm, fo)
  | u :: us, fm, fo => if sg_hit w s u = true then sg_fa w s a us (fm + 1) (if fm = a then u.1 else fo) else sg_fa w s a us fm fo
theorem sg_fcn (w s a : Int32) (u : Int32 × Int32 × Int32) (us : List (Int32 × Int32 × Int32)) (fm fo : Int32) : sg_fa w s a (u :: us) fm fo = if sg_hit w s u = true then sg_fa w s a us (fm + 1) (if fm = a then u.1 else fo) else sg_fa w s a us fm fo := rfl
theorem sg_fapp (w s a : Int32) : ∀ (us vs : List (Int32 × Int32 × Int32)) (fm fo : Int32), sg_fa w s a (us ++ vs) fm fo = sg_fa w s a vs (sg_fa w s a us fm fo).1 (sg_fa w s a us fm fo).2 := by
  intro us
  induction us with
  | nil => intro vs fm fo; rfl
  | cons u us ih =>
    intro vs fm fo
    rw [List.cons_append, sg_fcn, sg_fcn]
    by_cases h : sg_hit w s u = true
    · rw [if_pos h, if_pos h, ih]
    · rw [if_neg h, if_neg h, ih]
theorem sg_leaf (X x4 w s a fm fo : Int32) (o p : List Int32) (us : List (Int32 × Int32 × Int32)) (h : sg_cl X x4 o p = some us) : fX9_looksAt 700 X x4 w s a fm fo o p = some (sg_fa w s a us fm fo) := by
  unfold sg_cl at h
  unfold fX9_looksAt
  cases e : fX9_firstCross 700 X p with
  | none => rw [e] at h; cases h
  | some r =>
    rw [e] at h
    show (if r < 0 then _ else some (fm, fo)) = _
    have h2 : (if r < 0 then mm_bd1 (fX9_bendsOf 700 X p) (fun b : Int32 => mm_ck (mm_inb (X - 1) o.length) (some [(x4, b, mm_ig o (X - 1))])) else some []) = some us := h
    by_cases c : r < 0
    · rw [if_pos c] at h2 ⊢
      cases e2 : fX9_bendsOf 700 X p with
      | none => rw [e2] at h2; cases h2
      | some b =>
        rw [e2] at h2
        have h3 : mm_ck (mm_inb (X - 1) o.length) (some [(x4, b, mm_ig o (X - 1))]) = some us := h2
        cases e3 : mm_inb (X - 1) o.length with
        | false => rw [e3] at h3; cases h3
        | true =>
          rw [e3] at h3
          have h4 : some [(x4, b, mm_ig o (X - 1))] = some us := h3
          injection h4 with h5
          subst h5
          have yes : fX9_looksAt_59 700 x4 w s a fm fo o p = some (fm + 1, if fm = a then x4 else fo) := by
            show (if fm = a then some (fm + 1, x4) else some (fm + 1, fo)) = _
            by_cases q : fm = a
            · rw [if_pos q, if_pos q]
            · rw [if_neg q, if_neg q]
          have no : fX9_looksAt_63 700 x4 w s a fm fo o p = some (fm, fo) := by
            rfl
          have st36 : fX9_looksAt_36 700 X x4 w s a fm fo o p = if w = 2 then (if mm_ig o (X - 1) = s then some (fm + 1, if fm = a then x4 else fo) else some (fm, fo)) else some (fm, fo) := by
            unfold fX9_looksAt_36
            rw [yes, no, e3]
            rfl
          show (if w = 0 then fX9_looksAt_59 700 x4 w s a fm fo o p else (if w = 1 then (if b = s then fX9_looksAt_59 700 x4 w s a fm fo o p else fX9_looksAt_36 700 X x4 w s a fm fo o p) else fX9_looksAt_36 700 X x4 w s a fm fo o p)) = some (if sg_hit w s (x4, b, mm_ig o (X - 1)) = true then (fm + 1, if fm = a then x4 else fo) else (fm, fo))
          rw [yes, st36]
          unfold sg_hit
          by_cases w0 : w = 0
          · rw [if_pos w0, decide_eq_true w0]; rfl
          rw [if_neg w0, decide_eq_false w0]
          by_cases w1 : w = 1
          · have w2 : ¬ w = 2 := fun k => by rw [w1] at k; exact absurd k (by decide)
            rw [if_pos w1, if_neg w2, decide_eq_true w1, decide_eq_false w2]
            by_cases q : b = s
            · rw [if_pos q, decide_eq_true (p := (x4, b, mm_ig o (X - 1)).2.1 = s) q]; rfl
            · rw [if_neg q, decide_eq_false (p := (x4, b, mm_ig o (X - 1)).2.1 = s) q]; rfl
          · rw [if_neg w1, decide_eq_false w1]
            by_cases w2 : w = 2
            · rw [if_pos w2, decide_eq_true w2]
              by_cases q : mm_ig o (X - 1) = s
              · rw [if_pos q, decide_eq_true (p := (x4, b, mm_ig o (X - 1)).2.2 = s) q]; rfl
              · rw [if_neg q, decide_eq_false (p := (x4, b, mm_ig o (X - 1)).2.2 = s) q]; rfl
            · rw [if_neg w2, decide_eq_false w2]; rfl
    · rw [if_neg c] at h2 ⊢
      injection h2 with h5
      subst h5
      rfl
theorem sg_go (M : Nat) : ∀ (X x2 x3 x4 : Int32) (o p : List Int32) (us : List (Int32 × Int32 × Int32)) (o' p' : List Int32), sg_en M X x2 x3 x4 o p = some (us, o', p') → ∀ (w s a fm fo : Int32), fX9_goesOrders 700 M X x2 x3 x4 w s a fm fo o p = some ((sg_fa w s a us fm fo).1, (sg_fa w s a us fm fo).2, o', p') := by
  induction M with
  | zero => intro X x2 x3 x4 o p us o' p' h; cases h
  | succ M ih =>
    have inner : ∀ (n : Nat) (X x2 x3 x4 x5 : Int32) (o p : List Int32) (us : List (Int32 × Int32 × Int32)) (o' p' : List Int32), sg_en16 (sg_en M) n X x2 x3 x4 x5 o p = some (us, o', p') → ∀ (w s a fm fo : Int32), fX9_goesOrders_16 700 (fX9_goesOrders 700 M) n X x2 x3 x4 x5 w s a fm fo o p = some ((sg_fa w s a us fm fo).1, (sg_fa w s a us fm fo).2, o', p') := by
      intro n
      induction n with
      | zero => intro X x2 x3 x4 x5 o p us o' p' h; cases h
      | succ n ihn =>
        intro X x2 x3 x4 x5 o p us o' p' h w s a fm fo
        rw [sg_en16] at h
        rw [fX9_goesOrders_16]
        dsimp only at h ⊢
        by_cases c : X ≤ x5
        · rw [if_pos c] at h ⊢
          injection h with h
          injection h with h1 h2
          injection h2 with h2 h3
          subst h1 h2 h3
          rfl
        · rw [if_neg c] at h ⊢
          by_cases b : ((x3 >>> (x5 &&& 31)) &&& 1) = 0
          · rw [if_pos b] at h ⊢
            cases e1 : mm_inb x2 o.length with
            | false => rw [e1] at h; cases h
            | true =>
            cases e2 : mm_inb x5 p.length with
            | false => rw [e1, e2] at h; cases h
            | true =>
            rw [e1, e2] at h
            have h' : mm_bd3 (sg_en M X (x2 + 1) (x3 ||| ((1 : Int32) <<< (x5 &&& 31))) ((((10 : Int32) * x4) + x5) + 1) (mm_is o x2 x5) (mm_is p x5 x2)) (fun us o' p' => mm_bd3 (sg_en16 (sg_en M) n X x2 x3 x4 (x5 + 1) o' p') (fun us' o'' p'' => some (us ++ us', o'', p''))) = some (us, o', p') := h
            cases e3 : sg_en M X (x2 + 1) (x3 ||| ((1 : Int32) <<< (x5 &&& 31))) ((((10 : Int32) * x4) + x5) + 1) (mm_is o x2 x5) (mm_is p x5 x2) with
            | none => rw [e3] at h'; cases h'
            | some t =>
              obtain ⟨u1, o1, p1⟩ := t
              rw [e3] at h'
              have h2 : mm_bd3 (sg_en16 (sg_en M) n X x2 x3 x4 (x5 + 1) o1 p1) (fun us' o'' p'' => some (u1 ++ us', o'', p'')) = some (us, o', p') := h'
              cases e4 : sg_en16 (sg_en M) n X x2 x3 x4 (x5 + 1) o1 p1 with
              | none => rw [e4] at h2; cases h2
              | some t =>
                obtain ⟨u2, o2, p2⟩ := t
                rw [e4] at h2
                have h3 : some (u1 ++ u2, o2, p2) = some (us, o', p') := h2
                injection h3 with h3
                injection h3 with k1 k2
                injection k2 with k2 k3
                subst k1 k2 k3
                have g := ih X (x2 + 1) (x3 ||| ((1 : Int32) <<< (x5 &&& 31))) ((((10 : Int32) * x4) + x5) + 1) (mm_is o x2 x5) (mm_is p x5 x2) u1 o1 p1 e3 w s a fm fo
                have g2 := ihn X x2 x3 x4 (x5 + 1) o1 p1 u2 o2 p2 e4 w s a (sg_fa w s a u1 fm fo).1 (sg_fa w s a u1 fm fo).2
                rw [sg_fapp]
                show mm_bd4 (fX9_goesOrders 700 M X (x2 + 1) (x3 ||| ((1 : Int32) <<< (x5 &&& 31))) ((((10 : Int32) * x4) + x5) + 1) w s a fm fo (mm_is o x2 x5) (mm_is p x5 x2)) _ = _
                rw [g]
                exact g2
          · rw [if_neg b] at h ⊢
            exact ihn X x2 x3 x4 (x5 + 1) o p us o' p' h w s a fm fo
    intro X x2 x3 x4 o p us o' p' h w s a fm fo
    rw [sg_en] at h
    dsimp only at h
    show fX9_goesOrderso 700 (fX9_goesOrders 700 M) X x2 x3 x4 w s a fm fo o p = _
    unfold fX9_goesOrderso
    by_cases c : x2 = X
    · rw [if_pos c] at h ⊢
      cases e : sg_cl X x4 o p with
      | none => rw [e] at h; cases h
      | some vs =>
        rw [e] at h
        have h3 : some (vs, o, p) = some (us, o', p') := h
        injection h3 with h3
        injection h3 with k1 k2
        injection k2 with k2 k3
        subst k1 k2 k3
        rw [sg_leaf X x4 w s a fm fo o p vs e]
        rfl
    · rw [if_neg c] at h ⊢
      exact inner 700 X x2 x3 x4 0 o p us o' p' h w s a fm fo
/-- one step of the first row -/
theorem sg_one (M n : Nat) (X x2 x3 x4 x5 y5 : Int32) (o p : List Int32) (us us2 : List (Int32 × Int32 × Int32)) (o1 p1 o2 p2 : List Int32) (h1 : ¬ X ≤ x5) (h2 : ((x3 >>> (x5 &&& 31)) &&& 1) = 0) (i1 : mm_inb x2 o.length = true) (i2 : mm_inb x5 p.length = true) (hy : x5 + 1 = y5) (hg : sg_en M X (x2 + 1) (x3 ||| ((1 : Int32) <<< (x5 &&& 31))) ((((10 : Int32) * x4) + x5) + 1) (mm_is o x2 x5) (mm_is p x5 x2) = some (us, o1, p1)) (hr : sg_en16 (sg_en M) n X x2 x3 x4 y5 o1 p1 = some (us2, o2, p2)) : sg_en16 (sg_en M) (n + 1) X x2 x3 x4 x5 o p = some (us ++ us2, o2, p2) := by
  rw [sg_en16]
  dsimp only
  rw [if_neg h1, if_pos h2, i1, i2, hg, hy]
  show mm_bd3 (sg_en16 (sg_en M) n X x2 x3 x4 y5 o1 p1) _ = _
  rw [hr]
  rfl
