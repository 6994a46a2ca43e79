/-! crosses, bends: an order is laid alike -/
theorem rg_r10a (y : Int32) : (mm_rem y 10).toInt = y.toInt.tmod 10 := by
  by_cases h : 0 ≤ y.toInt
  · exact rg_r10 y h
  · show (y - y / 10 * 10).toInt = _
    rw [Int32.toInt_sub, Int32.toInt_mul, rg_d10]
    have e : (10 : Int32).toInt = 10 := by decide
    rw [e]
    have k := Int.mul_tdiv_add_tmod y.toInt 10
    have l1 := Int32.toInt_lt y
    have l2 := Int32.le_toInt y
    have b0 : y.toInt.tmod 10 = -((-y.toInt).tmod 10) := by rw [Int.neg_tmod, Int.neg_neg]
    have b1 : (-y.toInt).tmod 10 < 10 := Int.tmod_lt_of_pos _ (by decide)
    have b2 : 0 ≤ (-y.toInt).tmod 10 := Int.tmod_nonneg 10 (by omega)
    rw [Int.bmod_eq_of_le (n := y.toInt.tdiv 10 * 10) (by omega) (by omega), Int.bmod_eq_of_le (by omega) (by omega)]
    omega
theorem sb_inb (y : Int32) (n : Nat) (h0 : 0 ≤ y.toInt) (h1 : y.toInt < n) : mm_inb y n = true := by
  unfold mm_inb
  rw [Bool.and_eq_true]
  exact ⟨decide_eq_true (rg_mp (b := 0) (by decide) h0), decide_eq_true (by
    show y.toInt.toNat < n
    omega)⟩
theorem sb_of (y : Int32) (d : Nat) (hd : d < 7) (hy : y.toInt = d) : y = Int32.ofNat d :=
  Int32.toInt_inj.mp (hy.trans (Int32.toInt_ofNat_of_lt (Nat.lt_trans hd (by decide))).symm)
theorem sb_h1 (j d : Nat) (y : Int32) (hj : j < 128) (hd : d < 7) (hy : y.toInt = d) : decide ((Int32.ofNat j >>> (y &&& 31)) &&& 1 = 1) = sb_nb j d := by
  rw [sb_of y d hd hy]
  exact sb_g1 j d hj hd
theorem sb_h2 (j d : Nat) (y : Int32) (hj : j < 128) (hd : d < 7) (hy : y.toInt = d) (hb : sb_nb j d = false) : (Int32.ofNat j ||| ((1 : Int32) <<< (y &&& 31))) = Int32.ofNat (j + 2 ^ d) := by
  rw [sb_of y d hd hy]
  exact sb_g2 j d hj hd hb
def sb_C (m k n : Nat) : Prop := sb_ct m + k = n
theorem sb_inb7 (y : Int32) (l : List Int32) (hl : l.length = 7) (d : Nat) (hy : y.toInt = d) (hd : d < 7) : mm_inb y l.length = true := sb_inb _ _ (by omega) (by omega)
def sb_R (n k : Nat) (l p : List Int32) (m : Nat) : Prop := l.length = 7 ∧ p.length = 7 ∧ m < 128 ∧ (∀ e, n ≤ e → e < 7 → sb_nb m e = false) ∧ sb_C m k n ∧ (∀ f, f < n → (sb_nb m f = false ∧ (l.getD f 0).toInt < 0) ∨ (sb_nb m f = true ∧ (k : Int) ≤ (l.getD f 0).toInt ∧ (l.getD f 0).toInt < n ∧ p.getD f 0 = l.getD f 0)) ∧ (∀ f g, f < n → g < n → f ≠ g → sb_nb m f = true → sb_nb m g = true → l.getD f 0 ≠ l.getD g 0)
theorem sb_get (l : List Int32) (d f : Nat) (x : Int32) (hd : d < l.length) : (l.set d x).getD f 0 = if f = d then x else l.getD f 0 := by
  rw [List.getD_eq_getElem?_getD, List.getElem?_set]
  by_cases h : d = f
  · subst h
    rw [if_pos rfl, if_pos hd, if_pos rfl]; rfl
  · rw [if_neg h, if_neg (fun c => h c.symm), List.getD_eq_getElem?_getD]
theorem sb_next (n k : Nat) (hn : n ≤ 7) (hkn : k < n) (l p : List Int32) (m : Nat) (R : sb_R n (k + 1) l p m) (d : Nat) (hd : d < n) (hb : sb_nb m d = false) (x : Int32) (hx : x.toInt = k) : sb_R n k (l.set d x) (p.set d x) (m + 2 ^ d) := by
  obtain ⟨a1, a2, a3, a4, a5, a6, a7⟩ := R
  obtain ⟨s1, s3, s4'⟩ := sb_g3 m d a3 (by omega) hb
  have s4 := fun f (hf : f < n) => s4' f (by omega)
  have s2 : ∀ e, n ≤ e → e < 7 → sb_nb (m + 2 ^ d) e = false := by
    intro e h1 h2
    rw [s4' e h2, decide_eq_false (by omega), a4 e h1 h2]; rfl
  have g1 := fun f => sb_get l d f x (by omega)
  have g2 := fun f => sb_get p d f x (by omega)
  refine ⟨by rw [List.length_set]; exact a1, by rw [List.length_set]; exact a2, s1, s2, ?_, ?_, ?_⟩
  · unfold sb_C at a5 ⊢
    rw [s3]
    omega
  · intro f hf
    rw [s4 f hf, g1, g2]
    by_cases e : f = d
    · rw [if_pos e, if_pos e, decide_eq_true e, Bool.true_or]
      exact .inr ⟨rfl, by omega, by omega, rfl⟩
    · rw [if_neg e, if_neg e, decide_eq_false e, Bool.false_or]
      rcases a6 f hf with c | c
      · exact .inl c
      · exact .inr ⟨c.1, by omega, c.2.2.1, c.2.2.2⟩
  · intro f g hf hg hfg bf bg
    rw [s4 f hf] at bf
    rw [s4 g hg] at bg
    rw [g1, g1]
    by_cases e : f = d
    · rw [if_pos e, if_neg (fun c => hfg (by omega))]
      rw [decide_eq_false (fun c => hfg (by omega)), Bool.false_or] at bg
      rcases a6 g hg with c | c
      · rw [c.1] at bg; cases bg
      · intro c2
        rw [← c2] at c
        omega
    · rw [if_neg e]
      rw [decide_eq_false e, Bool.false_or] at bf
      by_cases e2 : g = d
      · rw [if_pos e2]
        rcases a6 f hf with c | c
        · rw [c.1] at bf; cases bf
        · intro c2
          rw [c2] at c
          omega
      · rw [if_neg e2]
        rw [decide_eq_false e2, Bool.false_or] at bg
        exact a7 f g hf hg hfg bf bg
set_option maxHeartbeats 4000000 in
theorem sb_lay (n : Nat) (hn2 : 2 ≤ n) (hn : n ≤ 7) (X : Int32) (hX : X.toInt = n) : ∀ (k N1 N2 : Nat) (rest x : Int32) (l p o : List Int32) (m : Nat), k < N1 → k < N2 → x.toInt = (k : Int) - 1 → k ≤ n → sb_R n k l p m → o.length = 7 →
    (∃ a, fX7_lay_15 700 N1 X rest x l = some (false, a) ∧ ∃ o' p', fX9_isOrder_10 700 N2 X (Int32.ofNat m) rest x o p = some (false, o', p')) ∨ (∃ a o' p' m', fX7_lay_15 700 N1 X rest x l = some (true, a) ∧ fX9_isOrder_10 700 N2 X (Int32.ofNat m) rest x o p = some (true, o', p') ∧ sb_R n 0 a p' m') := by
  intro k
  induction k with
  | zero =>
    intro N1 N2 rest x l p o m h1 h2 hx hk R ho
    cases N1 with
    | zero => omega
    | succ N1 =>
    cases N2 with
    | zero => omega
    | succ N2 =>
    rw [fX7_lay_15, fX9_isOrder_10]
    dsimp only
    rw [if_pos (rg_p (x := x) (b := 0) (by decide) (by omega)), if_pos (rg_p (x := x) (b := 0) (by decide) (by omega))]
    by_cases c : rest = 0
    · rw [if_pos c, if_pos c]
      exact .inr ⟨l, o, p, m, rfl, rfl, R⟩
    · rw [if_neg c, if_neg c]
      exact .inl ⟨l, rfl, o, p, rfl⟩
  | succ k ih =>
    intro N1 N2 rest x l p o m h1 h2 hx hk R ho
    cases N1 with
    | zero => omega
    | succ N1 =>
    cases N2 with
    | zero => omega
    | succ N2 =>
    have e8 : fX7_lay_15 700 (N1 + 1) X rest x l = (if x < 0 then (if rest = 0 then some (true, l) else some (false, l)) else (if mm_rem rest 10 - 1 < 0 then some (false, l) else (if X ≤ mm_rem rest 10 - 1 then some (false, l) else (mm_ck (mm_inb (mm_rem rest 10 - 1) l.length) (if mm_ig l (mm_rem rest 10 - 1) < 0 then mm_ck (mm_inb (mm_rem rest 10 - 1) l.length) (fX7_lay_15 700 N1 X (rest / 10) (x + (-1)) (mm_is l (mm_rem rest 10 - 1) x)) else some (false, l)))))) := rfl
    have e9 : fX9_isOrder_10 700 (N2 + 1) X (Int32.ofNat m) rest x o p = (if x < 0 then (if rest = 0 then some (true, o, p) else some (false, o, p)) else (if rest ≤ 0 then some (false, o, p) else (mm_bd1 (fX9_within 700 (mm_rem rest 10 - 1).toInt64 0 (X - 1).toInt64) (fun r_7 => if r_7 = false then some (false, o, p) else (if ((Int32.ofNat m >>> ((mm_rem rest 10 - 1) &&& 31)) &&& 1) = 1 then some (false, o, p) else (mm_ck (mm_inb x o.length) (mm_ck (mm_inb (mm_rem rest 10 - 1) p.length) (fX9_isOrder_10 700 N2 X (Int32.ofNat m ||| ((1 : Int32) <<< ((mm_rem rest 10 - 1) &&& 31))) (rest / 10) (x + (-1)) (mm_is o x (mm_rem rest 10 - 1)) (mm_is p (mm_rem rest 10 - 1) x))))))))) := rfl
    rw [e8, e9, if_neg (rg_n (x := x) (b := 0) (by decide) (by omega)), if_neg (rg_n (x := x) (b := 0) (by decide) (by omega))]
    have t1 : (1 : Int32).toInt = 1 := by decide
    have tm : (-1 : Int32).toInt = -1 := by decide
    have r0 := rg_r10a rest
    have b1 : rest.toInt.tmod 10 < 10 := Int.tmod_lt_of_pos _ (by decide)
    have b2 : -10 < rest.toInt.tmod 10 := Int.lt_tmod_of_pos _ (by decide)
    have y0 : (mm_rem rest 10 - 1).toInt = rest.toInt.tmod 10 - 1 := by
      rw [Int32.toInt_sub, r0, t1, Int.bmod_eq_of_le (by omega) (by omega)]
    have x1 : (X - 1).toInt = (n : Int) - 1 := by
      rw [Int32.toInt_sub, hX, t1, Int.bmod_eq_of_le (by omega) (by omega)]
    have xm : (x + (-1)).toInt = (k : Int) - 1 := by
      rw [Int32.toInt_add, hx, tm, Int.bmod_eq_of_le (by omega) (by omega)]
      omega
    have x164 : (X - 1).toInt64.toInt = (n : Int) - 1 := by rw [Int32.toInt_toInt64, x1]
    by_cases c1 : rest.toInt ≤ 0
    · have bn : rest.toInt.tmod 10 ≤ 0 := by
        have b0 : rest.toInt.tmod 10 = -((-rest.toInt).tmod 10) := by rw [Int.neg_tmod, Int.neg_neg]
        have b3 : 0 ≤ (-rest.toInt).tmod 10 := Int.tmod_nonneg 10 (by omega)
        omega
      rw [if_pos (rg_p (b := 0) (by decide) (by omega)), if_pos (rg_ep (b := 0) (by decide) c1)]
      exact .inl ⟨_, rfl, _, _, rfl⟩
    rw [if_neg (rg_en (x := rest) (b := 0) (by decide) (by omega))]
    by_cases c2 : (mm_rem rest 10 - 1).toInt < 0
    · rw [if_pos (rg_p (b := 0) (by decide) c2), rg_wf 700 _ (a := 0) (b := (n : Int) - 1) (by decide) x164 (.inl c2)]
      exact .inl ⟨_, rfl, _, _, rfl⟩
    rw [if_neg (rg_n (b := 0) (by decide) (by omega))]
    by_cases c3 : (n : Int) ≤ (mm_rem rest 10 - 1).toInt
    · rw [if_pos (rg_mp hX c3), rg_wf 700 _ (a := 0) (b := (n : Int) - 1) (by decide) x164 (.inr (by omega))]
      exact .inl ⟨_, rfl, _, _, rfl⟩
    rw [if_neg (rg_mn hX (by omega)), rg_wt 700 _ (a := 0) (b := (n : Int) - 1) (by decide) x164 (by omega) (by omega)]
    clear e8 e9 t1 tm x1 x164 y0 r0 b1 b2
    have hk7 : k < 7 := by
      clear xm c1 c2 c3
      omega
    have hxk : x.toInt = (k : Nat) := by
      clear xm c1 c2 c3
      omega
    have hkn : k < n := by
      clear xm c1 c2 c3
      omega
    have hN1 : k < N1 := by
      clear xm c1 c2 c3
      omega
    have hN2 : k < N2 := by
      clear xm c1 c2 c3
      omega
    generalize mm_rem rest 10 - 1 = y at *
    obtain ⟨d, ti⟩ : ∃ d : Nat, y.toInt = d := ⟨y.toInt.toNat, by
      clear xm c1
      omega⟩
    have hd : d < n := by
      clear xm c1
      omega
    have td : y.toNatClampNeg = d := by
      show y.toInt.toNat = d
      clear xm c1 c2 c3
      omega
    have hd7 : d < 7 := Nat.lt_of_lt_of_le hd hn
    have R' := R
    obtain ⟨a1, a2, a3, a4, a5, a6, a7⟩ := R'
    have i1 : mm_inb y l.length = true := sb_inb7 y l a1 d ti hd7
    have i2 : mm_inb y p.length = true := sb_inb7 y p a2 d ti hd7
    have i3 : mm_inb x o.length = true := sb_inb7 x o ho k hxk hk7
    have gl : mm_ig l y = l.getD d 0 := by unfold mm_ig; rw [td]
    have sl : mm_is l y x = l.set d x := by unfold mm_is; rw [td]
    have sp : mm_is p y x = p.set d x := by unfold mm_is; rw [td]
    rw [i1, i2, i3, gl, sl, sp]
    rcases a6 d hd with c | c
    · have cb : ¬ ((Int32.ofNat m >>> (y &&& 31)) &&& 1) = 1 := of_decide_eq_false ((sb_h1 m d y a3 hd7 ti).trans c.1)
      have q := ih N1 N2 (rest / 10) (x + (-1)) (l.set d x) (p.set d x) (mm_is o x y) _ hN1 hN2 xm (Nat.le_of_lt hkn) (sb_next n k hn hkn l p m R d hd c.1 x hxk) (by unfold mm_is; rw [List.length_set]; exact ho)
      rw [if_pos (rg_p (b := 0) (by decide) c.2), sb_h2 m d y a3 hd7 ti c.1]
      show (∃ a, fX7_lay_15 700 N1 X (rest / 10) (x + (-1)) (l.set d x) = some (false, a) ∧ ∃ o' p', (if ((Int32.ofNat m >>> (y &&& 31)) &&& 1) = 1 then some (false, o, p) else fX9_isOrder_10 700 N2 X (Int32.ofNat (m + 2 ^ d)) (rest / 10) (x + (-1)) (mm_is o x y) (p.set d x)) = some (false, o', p')) ∨ (∃ a o' p' m', fX7_lay_15 700 N1 X (rest / 10) (x + (-1)) (l.set d x) = some (true, a) ∧ (if ((Int32.ofNat m >>> (y &&& 31)) &&& 1) = 1 then some (false, o, p) else fX9_isOrder_10 700 N2 X (Int32.ofNat (m + 2 ^ d)) (rest / 10) (x + (-1)) (mm_is o x y) (p.set d x)) = some (true, o', p') ∧ sb_R n 0 a p' m')
      rw [if_neg cb]
      exact q
    · have cb : ((Int32.ofNat m >>> (y &&& 31)) &&& 1) = 1 := of_decide_eq_true ((sb_h1 m d y a3 hd7 ti).trans c.1)
      rw [if_neg (rg_n (b := 0) (by decide) (Int.le_trans (Int.natCast_nonneg _) c.2.1))]
      refine .inl ⟨l, rfl, o, p, ?_⟩
      show (if ((Int32.ofNat m >>> (y &&& 31)) &&& 1) = 1 then some (false, o, p) else _) = _
      rw [if_pos cb]
