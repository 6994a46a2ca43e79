section
/-! Creases: how one bends -/
def ba_w (w f : Int32) : Int32 := if (if f = 0 then (1 : Int32) else (0 : Int32)) = mm_b (ovw w) then 1 else 2
def bn_w (w ln a1 a2 x1 x2 f1 f2 : Int32) : Int32 := if x1 = x2 then (if a1 = (if csw w = false then ln else ln - (1 : Int32)) ∧ a2 = (if csw w = false then ln - (1 : Int32) else ln) then ba_w w f1 else if a2 = (if csw w = false then ln else ln - (1 : Int32)) ∧ a1 = (if csw w = false then ln - (1 : Int32) else ln) then ba_w w f2 else 0) else 0
theorem bt_8 {i w r : Int32} {F : List Int32} (e : fX5_bendAt 700 i w F = some r) : r = ba_w w (F.getD i.toInt.toNat 0) := by
  unfold fX5_bendAt at e
  have e := ck_x e
  have e2 : fX5_bendAt_14 700 w (if F.getD i.toInt.toNat 0 = 0 then (1 : Int32) else (0 : Int32)) F = some r := by
    by_cases k : F.getD i.toInt.toNat 0 = 0
    · rw [if_pos k]
      rw [if_pos (show mm_ig F i = 0 from k)] at e
      exact e
    · rw [if_neg k]
      rw [if_neg (show ¬ mm_ig F i = 0 from k)] at e
      exact e
  unfold fX5_bendAt_14 at e2
  obtain ⟨o, eo, e2⟩ := mm_bd1s e2
  have ho := ov_e eo
  subst ho
  unfold ba_w
  by_cases k : (if F.getD i.toInt.toNat 0 = 0 then (1 : Int32) else (0 : Int32)) = mm_b (ovw w)
  · rw [if_pos k] at e2 ⊢
    exact (sm_i e2).symm
  · rw [if_neg k] at e2 ⊢
    exact (sm_i e2).symm
theorem bb_e {i j ln w r : Int32} {R C F : List Int32} (e : fX5_bendBetween 700 i j ln w R C F = some r) : r = bn_w w ln (al_w w (R.getD i.toInt.toNat 0) (C.getD i.toInt.toNat 0)) (al_w w (R.getD j.toInt.toNat 0) (C.getD j.toInt.toNat 0)) (ac_w w (R.getD i.toInt.toNat 0) (C.getD i.toInt.toNat 0)) (ac_w w (R.getD j.toInt.toNat 0) (C.getD j.toInt.toNat 0)) (F.getD i.toInt.toNat 0) (F.getD j.toInt.toNat 0) := by
  unfold fX5_bendBetween at e
  obtain ⟨o, eo, e⟩ := mm_bd1s e
  have ho := cs_e eo
  subst ho
  have e2 : fX5_bendBetween_15 700 i j ln w (if csw w = false then ln else ln - (1 : Int32)) R C F = some r := by
    by_cases k : csw w = false
    · rw [if_pos k] at e ⊢
      exact e
    · rw [if_neg k] at e ⊢
      exact e
  unfold fX5_bendBetween_15 at e2
  obtain ⟨o, eo, e2⟩ := mm_bd1s e2
  have ho := cs_e eo
  subst ho
  have e3 : fX5_bendBetween_32 700 i j w (if csw w = false then ln else ln - (1 : Int32)) (if csw w = false then ln - (1 : Int32) else ln) R C F = some r := by
    by_cases k : csw w = false
    · rw [if_pos k] at e2
      rw [if_pos k] at e2 ⊢
      rw [if_pos k]
      exact e2
    · rw [if_neg k] at e2
      rw [if_neg k] at e2 ⊢
      rw [if_neg k]
      exact e2
  unfold bn_w
  generalize (if csw w = false then ln else ln - (1 : Int32)) = co at e3 ⊢
  generalize (if csw w = false then ln - (1 : Int32) else ln) = st at e3 ⊢
  unfold fX5_bendBetween_32 at e3
  obtain ⟨y1, ey1, e3⟩ := mm_bd1s e3
  obtain ⟨y2, ey2, e3⟩ := mm_bd1s e3
  have hy1 := ac_e ey1
  have hy2 := ac_e ey2
  rw [← hy1, ← hy2]
  by_cases k : y1 = y2
  · rw [if_pos k] at e3 ⊢
    obtain ⟨b1, eb1, e3⟩ := mm_bd1s e3
    have hb1 := al_e eb1
    rw [← hb1]
    have K : ¬ (b1 = co ∧ al_w w (R.getD j.toInt.toNat 0) (C.getD j.toInt.toNat 0) = st) → fX5_bendBetween_85 700 i j w co st R C F = some r → r = if b1 = co ∧ al_w w (R.getD j.toInt.toNat 0) (C.getD j.toInt.toNat 0) = st then ba_w w (F.getD i.toInt.toNat 0) else if al_w w (R.getD j.toInt.toNat 0) (C.getD j.toInt.toNat 0) = co ∧ b1 = st then ba_w w (F.getD j.toInt.toNat 0) else 0 := by
      intro hn e
      rw [if_neg hn]
      unfold fX5_bendBetween_85 at e
      obtain ⟨b2, eb2, e⟩ := mm_bd1s e
      have hb2 := al_e eb2
      rw [← hb2]
      by_cases g : b2 = co
      · rw [if_pos g] at e
        obtain ⟨b3, eb3, e⟩ := mm_bd1s e
        have hb3 := al_e eb3
        rw [← hb1] at hb3
        rw [hb3] at e
        by_cases g2 : b1 = st
        · rw [if_pos g2] at e
          rw [if_pos ⟨g, g2⟩]
          obtain ⟨u, eu, e⟩ := mm_bd1s e
          rw [← sm_i e]
          exact bt_8 eu
        · rw [if_neg g2] at e
          rw [if_neg (fun h => g2 h.2)]
          exact (sm_i e).symm
      · rw [if_neg g] at e
        rw [if_neg (fun h => g h.1)]
        exact (sm_i e).symm
    by_cases g : b1 = co
    · rw [if_pos g] at e3
      obtain ⟨b2, eb2, e3⟩ := mm_bd1s e3
      have hb2 := al_e eb2
      by_cases g2 : b2 = st
      · rw [if_pos g2] at e3
        rw [← hb2, if_pos ⟨g, g2⟩]
        obtain ⟨u, eu, e3⟩ := mm_bd1s e3
        rw [← sm_i e3]
        exact bt_8 eu
      · rw [if_neg g2] at e3
        exact K (fun h => g2 (by rw [hb2]; exact h.2)) e3
    · rw [if_neg g] at e3
      exact K (fun h => g h.1) e3
  · rw [if_neg k] at e3 ⊢
    exact (sm_i e3).symm
theorem pm_1 (x : Int32) : ¬ x - (1 : Int32) = x := by
  intro h
  have q : x - (1 : Int32) - x = x - x := by rw [h]
  rw [Int32.sub_self, Int32.sub_sub, Int32.add_comm, ← Int32.sub_sub, Int32.sub_self] at q
  exact absurd q (by decide)
/-- a crease as the reference bends it -/
theorem bo_9 {lv k ln w co f g r : Int32} {lim row col fac wo : List Int32} (w0 : 0 ≤ w.toInt) (w7 : w.toInt ≤ 7) (l1 : 1 ≤ ln.toInt) (hf : k / (2 : Int32) = f) (hg : fX9_otherOf 700 k co = some g) (e : fX9_bendOf 700 lv k ln w co lim row col fac wo = some r) : r = if wo.getD (((64 : Int32) * lv) + k).toInt.toNat 0 < lim.getD 0 0 then bn_w w ln (al_w w (row.getD (((32 : Int32) * lv) + f).toInt.toNat 0) (col.getD (((32 : Int32) * lv) + f).toInt.toNat 0)) (al_w w (row.getD (((32 : Int32) * lv) + g).toInt.toNat 0) (col.getD (((32 : Int32) * lv) + g).toInt.toNat 0)) (ac_w w (row.getD (((32 : Int32) * lv) + f).toInt.toNat 0) (col.getD (((32 : Int32) * lv) + f).toInt.toNat 0)) (ac_w w (row.getD (((32 : Int32) * lv) + g).toInt.toNat 0) (col.getD (((32 : Int32) * lv) + g).toInt.toNat 0)) (fac.getD (((32 : Int32) * lv) + f).toInt.toNat 0) (fac.getD (((32 : Int32) * lv) + g).toInt.toNat 0) else 0 := by
  obtain ⟨wy1, wy2⟩ := wy_e w0 w7
  have n1 : (1 : Int32).toInt = 1 := by decide
  have hlb : ln.toInt < 2147483648 := Int32.toInt_lt ln
  have es := i_subE (rfl : ln - (1 : Int32) = _) (by omega) (by omega)
  unfold fX9_bendOf at e
  have e := ck_x e
  rw [nm_eq, hf, hg, bs_1] at e
  have e1 : fX9_bendOf_23 700 lv k ln w f g (b9_w w) co lim row col fac wo = some r := by
    unfold b9_w
    by_cases q : (4 : Int32) ≤ w
    · rw [if_pos q] at e ⊢
      exact e
    · rw [if_neg q] at e ⊢
      exact e
  unfold fX9_bendOf_23 at e1
  obtain ⟨a1, ea1, e1⟩ := mm_bd1s e1
  obtain ⟨a2, ea2, e1⟩ := mm_bd1s e1
  have ha1 := pl_e ea1
  have ha2 := pl_e ea2
  rw [al_p] at ha1 ha2
  rw [← ha1, ← ha2]
  -- what is behind a place beside the line
  have K : (a1 = ln - (1 : Int32) ∧ a2 = ln ∨ a1 = ln ∧ a2 = ln - (1 : Int32)) → fX9_bendOf_75 700 lv k ln w f g (b9_w w) a1 co lim row col fac wo = some r → r = if wo.getD (((64 : Int32) * lv) + k).toInt.toNat 0 < lim.getD 0 0 then bn_w w ln a1 a2 (ac_w w (row.getD (((32 : Int32) * lv) + f).toInt.toNat 0) (col.getD (((32 : Int32) * lv) + f).toInt.toNat 0)) (ac_w w (row.getD (((32 : Int32) * lv) + g).toInt.toNat 0) (col.getD (((32 : Int32) * lv) + g).toInt.toNat 0)) (fac.getD (((32 : Int32) * lv) + f).toInt.toNat 0) (fac.getD (((32 : Int32) * lv) + g).toInt.toNat 0) else 0 := by
    intro hbe e
    unfold fX9_bendOf_75 fX9_bendOf_80 at e
    rw [if_neg (by decide)] at e
    have e2 : fX9_bendOf_101 700 lv k ln w f g (b9_w w) a1 (if b9_w w = 0 then (1 : Int32) else (0 : Int32)) f lv co lim row col fac wo = some r := by
      by_cases q : b9_w w = 0
      · rw [if_pos q] at e ⊢
        exact e
      · rw [if_neg q] at e ⊢
        exact e
    unfold fX9_bendOf_101 at e2
    obtain ⟨y1, ey1, e2⟩ := mm_bd1s e2
    have hy1 := pl_e ey1
    rw [pl_not, ac_p] at hy1
    rw [← hy1]
    have e3 : fX9_bendOf_118 700 lv k ln w f g a1 (if b9_w w = 0 then (1 : Int32) else (0 : Int32)) g lv y1 co lim row col fac wo = some r := by
      by_cases q : b9_w w = 0
      · rw [if_pos q] at e2
        rw [if_pos q]
        exact e2
      · rw [if_neg q] at e2
        rw [if_neg q]
        exact e2
    unfold fX9_bendOf_118 at e3
    obtain ⟨y2, ey2, e3⟩ := mm_bd1s e3
    have hy2 := pl_e ey2
    rw [pl_not, ac_p] at hy2
    rw [← hy2]
    unfold bn_w
    by_cases h1 : y1 = y2
    · rw [if_pos h1] at e3 ⊢
      have e3 := ck_x (ck_x e3)
      by_cases h2 : wo.getD (((64 : Int32) * lv) + k).toInt.toNat 0 < lim.getD 0 0
      · rw [if_pos h2]
        rw [if_pos (show mm_ig wo (((64 : Int32) * lv) + k) < mm_ig lim (0 : Int32) from h2)] at e3
        have e3 := ck_x e3
        have e4 : fX9_bendOf_159 700 lv ln w f g a1 (l9_w w) co lim row col fac wo = some r := by
          unfold l9_w
          by_cases q : (2 : Int32) ≤ (mm_rem w (4 : Int32))
          · rw [if_pos q] at e3 ⊢
            exact e3
          · rw [if_neg q] at e3 ⊢
            exact e3
        rw [wy1] at e4
        unfold fX9_bendOf_159 at e4
        -- the field that comes
        have T : ∀ x : Int32, fX9_bendOf_184 700 lv w x co lim row col fac wo = some r → r = ba_w w (fac.getD (((32 : Int32) * lv) + x).toInt.toNat 0) := by
          intro x e
          unfold fX9_bendOf_184 at e
          have e := ck_x e
          have e2 : fX9_bendOf_198 700 lv x (v9_w w) co lim row col fac wo = some r := by
            unfold v9_w
            by_cases q : (mm_rem w (2 : Int32)) = 0
            · rw [if_pos q] at e ⊢
              exact e
            · rw [if_neg q] at e ⊢
              exact e
          unfold fX9_bendOf_198 at e2
          have e2 := ck_x e2
          have e3 : fX9_bendOf_220 700 (v9_w w) (if fac.getD (((32 : Int32) * lv) + x).toInt.toNat 0 = 0 then (1 : Int32) else (0 : Int32)) co lim row col fac wo = some r := by
            by_cases q : fac.getD (((32 : Int32) * lv) + x).toInt.toNat 0 = 0
            · rw [if_pos q]
              rw [if_pos (show mm_ig fac (((32 : Int32) * lv) + x) = 0 from q)] at e2
              exact e2
            · rw [if_neg q]
              rw [if_neg (show ¬ mm_ig fac (((32 : Int32) * lv) + x) = 0 from q)] at e2
              exact e2
          unfold fX9_bendOf_220 at e3
          have hv : v9_w w = mm_b (ovw w) := by
            rw [← wy2]
            unfold o9_w v9_w
            by_cases q : (mm_rem w (2 : Int32)) = 0
            · rw [if_pos q]
              decide
            · rw [if_neg q]
              decide
          rw [hv] at e3
          unfold ba_w
          by_cases q : (if fac.getD (((32 : Int32) * lv) + x).toInt.toNat 0 = 0 then (1 : Int32) else (0 : Int32)) = mm_b (ovw w)
          · rw [if_pos q] at e3 ⊢
            exact (sm_i e3).symm
          · rw [if_neg q] at e3 ⊢
            exact (sm_i e3).symm
        rcases hbe with ⟨h3, h4⟩ | ⟨h3, h4⟩
        · have hlt : ¬ ln ≤ a1 := fun h => absurd (i_le h) (by rw [h3]; omega)
          rw [if_neg hlt] at e4
          unfold fX9_bendOf_172 at e4
          cases hc : csw w with
          | true =>
            rw [hc, if_pos (by decide)] at e4
            rw [if_neg (c := true = false) (by decide), if_neg (c := true = false) (by decide), if_pos ⟨h3, h4⟩]
            exact T f e4
          | false =>
            rw [hc, if_neg (by decide)] at e4
            rw [if_pos (c := false = false) rfl, if_pos (c := false = false) rfl, if_neg (fun h => pm_1 ln (h3.symm.trans h.1)), if_pos ⟨h4, h3⟩]
            exact T g e4
        · have hle : ln ≤ a1 := by rw [h3]; exact Int32.le_refl _
          rw [if_pos hle] at e4
          unfold fX9_bendOf_172 at e4
          cases hc : csw w with
          | true =>
            rw [hc, if_neg (by decide)] at e4
            rw [if_neg (c := true = false) (by decide), if_neg (c := true = false) (by decide), if_neg (fun h => pm_1 ln (h.1.symm.trans h3)), if_pos ⟨h4, h3⟩]
            exact T g e4
          | false =>
            rw [hc, if_pos (by decide)] at e4
            rw [if_pos (c := false = false) rfl, if_pos (c := false = false) rfl, if_pos ⟨h3, h4⟩]
            exact T f e4
      · rw [if_neg h2]
        rw [if_neg (show ¬ mm_ig wo (((64 : Int32) * lv) + k) < mm_ig lim (0 : Int32) from h2)] at e3
        exact (sm_i e3).symm
    · rw [if_neg h1] at e3 ⊢
      rw [ite_self]
      exact (sm_i e3).symm
  have Z : ¬ (a1 = ln - (1 : Int32) ∧ a2 = ln ∨ a1 = ln ∧ a2 = ln - (1 : Int32)) → fX9_bendOf_79 700 lv k ln w f g (b9_w w) a1 co lim row col fac wo = some r → r = if wo.getD (((64 : Int32) * lv) + k).toInt.toNat 0 < lim.getD 0 0 then bn_w w ln a1 a2 (ac_w w (row.getD (((32 : Int32) * lv) + f).toInt.toNat 0) (col.getD (((32 : Int32) * lv) + f).toInt.toNat 0)) (ac_w w (row.getD (((32 : Int32) * lv) + g).toInt.toNat 0) (col.getD (((32 : Int32) * lv) + g).toInt.toNat 0)) (fac.getD (((32 : Int32) * lv) + f).toInt.toNat 0) (fac.getD (((32 : Int32) * lv) + g).toInt.toNat 0) else 0 := by
    intro hn e
    unfold fX9_bendOf_79 fX9_bendOf_80 at e
    rw [if_pos rfl] at e
    have hz : bn_w w ln a1 a2 (ac_w w (row.getD (((32 : Int32) * lv) + f).toInt.toNat 0) (col.getD (((32 : Int32) * lv) + f).toInt.toNat 0)) (ac_w w (row.getD (((32 : Int32) * lv) + g).toInt.toNat 0) (col.getD (((32 : Int32) * lv) + g).toInt.toNat 0)) (fac.getD (((32 : Int32) * lv) + f).toInt.toNat 0) (fac.getD (((32 : Int32) * lv) + g).toInt.toNat 0) = 0 := by
      unfold bn_w
      cases hc : csw w with
      | true =>
        rw [if_neg (c := true = false) (by decide), if_neg (c := true = false) (by decide)]
        split
        · rw [if_neg (fun h => hn (Or.inl h)), if_neg (fun h => hn (Or.inr ⟨h.2, h.1⟩))]
        · rfl
      | false =>
        rw [if_pos (c := false = false) rfl, if_pos (c := false = false) rfl]
        split
        · rw [if_neg (fun h => hn (Or.inr h)), if_neg (fun h => hn (Or.inl ⟨h.2, h.1⟩))]
        · rfl
    rw [hz, ite_self]
    exact (sm_i e).symm
  have S : ∀ hh : ¬ (a1 = ln - (1 : Int32) ∧ a2 = ln), fX9_bendOf_61 700 lv k ln w f g (b9_w w) a1 a2 co lim row col fac wo = some r → r = if wo.getD (((64 : Int32) * lv) + k).toInt.toNat 0 < lim.getD 0 0 then bn_w w ln a1 a2 (ac_w w (row.getD (((32 : Int32) * lv) + f).toInt.toNat 0) (col.getD (((32 : Int32) * lv) + f).toInt.toNat 0)) (ac_w w (row.getD (((32 : Int32) * lv) + g).toInt.toNat 0) (col.getD (((32 : Int32) * lv) + g).toInt.toNat 0)) (fac.getD (((32 : Int32) * lv) + f).toInt.toNat 0) (fac.getD (((32 : Int32) * lv) + g).toInt.toNat 0) else 0 := by
    intro hh e
    unfold fX9_bendOf_61 at e
    by_cases q1 : a1 = ln
    · rw [if_pos q1] at e
      by_cases q2 : a2 = ln - (1 : Int32)
      · rw [if_pos q2] at e
        exact K (Or.inr ⟨q1, q2⟩) e
      · rw [if_neg q2] at e
        exact Z (fun h => h.elim hh (fun h => q2 h.2)) e
    · rw [if_neg q1] at e
      exact Z (fun h => h.elim hh (fun h => q1 h.1)) e
  by_cases q1 : a1 = ln - (1 : Int32)
  · rw [if_pos q1] at e1
    by_cases q2 : a2 = ln
    · rw [if_pos q2] at e1
      exact K (Or.inl ⟨q1, q2⟩) e1
    · rw [if_neg q2] at e1
      exact S (fun h => q2 h.2) e1
  · rw [if_neg q1] at e1
    exact S (fun h => q1 h.1) e1
end
section
/-! Creases: which bend -/
def gk_w (c k : Nat) : Nat := if k % 2 = 0 then k / 2 + 1 else k / 2 + c
def be_w (m c : Nat) (ln w lim : Int32) (R C F W : List Int32) (k : Nat) : Int32 := if (k / 2 < m ∧ (if k % 2 = 0 then k / 2 % c < c - 1 else k / 2 + c < m)) ∧ W.getD k 0 < lim then bn_w w ln (al_w w (R.getD (k / 2) 0) (C.getD (k / 2) 0)) (al_w w (R.getD (gk_w c k) 0) (C.getD (gk_w c k) 0)) (ac_w w (R.getD (k / 2) 0) (C.getD (k / 2) 0)) (ac_w w (R.getD (gk_w c k) 0) (C.getD (gk_w c k) 0)) (F.getD (k / 2) 0) (F.getD (gk_w c k) 0) else 0
theorem bn_3 (w ln a1 a2 x1 x2 f1 f2 : Int32) : bn_w w ln a1 a2 x1 x2 f1 f2 = 0 ∨ bn_w w ln a1 a2 x1 x2 f1 f2 = 1 ∨ bn_w w ln a1 a2 x1 x2 f1 f2 = 2 := by
  have B : ∀ f : Int32, ba_w w f = 1 ∨ ba_w w f = 2 := by
    intro f
    unfold ba_w
    by_cases k : (if f = 0 then (1 : Int32) else (0 : Int32)) = mm_b (ovw w)
    · rw [if_pos k]
      exact Or.inl rfl
    · rw [if_neg k]
      exact Or.inr rfl
  unfold bn_w
  by_cases k1 : x1 = x2
  · rw [if_pos k1]
    by_cases k2 : a1 = (if csw w = false then ln else ln - (1 : Int32)) ∧ a2 = (if csw w = false then ln - (1 : Int32) else ln)
    · rw [if_pos k2]
      exact Or.inr (B f1)
    · rw [if_neg k2]
      by_cases k3 : a2 = (if csw w = false then ln else ln - (1 : Int32)) ∧ a1 = (if csw w = false then ln - (1 : Int32) else ln)
      · rw [if_pos k3]
        exact Or.inr (B f2)
      · rw [if_neg k3]
        exact Or.inl rfl
  · rw [if_neg k1]
    exact Or.inl rfl
theorem be_3 (m c : Nat) (ln w lim : Int32) (R C F W : List Int32) (k : Nat) : be_w m c ln w lim R C F W k = 0 ∨ be_w m c ln w lim R C F W k = 1 ∨ be_w m c ln w lim R C F W k = 2 := by
  unfold be_w
  by_cases h : (k / 2 < m ∧ (if k % 2 = 0 then k / 2 % c < c - 1 else k / 2 + c < m)) ∧ W.getD k 0 < lim
  · rw [if_pos h]
    exact bn_3 _ _ _ _ _ _ _ _
  · rw [if_neg h]
    exact Or.inl rfl
theorem nb_n {f kk rows cols r : Int32} {m k : Nat} (hm : (rows * cols).toInt = m) (m32 : m ≤ 32) (c0 : 1 ≤ cols.toInt) (c8 : cols.toInt ≤ 8) (hf : f.toInt = (k / 2 : Nat)) (hk : kk.toInt = (k % 2 : Nat)) (e : fX5_neighbour 700 f kk rows cols = some r) : ((k / 2 < m ∧ (if k % 2 = 0 then k / 2 % cols.toInt.toNat < cols.toInt.toNat - 1 else k / 2 + cols.toInt.toNat < m)) → r.toInt = gk_w cols.toInt.toNat k) ∧ (¬ (k / 2 < m ∧ (if k % 2 = 0 then k / 2 % cols.toInt.toNat < cols.toInt.toNat - 1 else k / 2 + cols.toInt.toNat < m)) → r = -1) := by
  have n0 : (0 : Int32).toInt = 0 := by decide
  have n1 : (1 : Int32).toInt = 1 := by decide
  unfold fX5_neighbour at e
  rw [hf_e, bs_1] at e
  obtain ⟨c, hc⟩ : ∃ c : Nat, cols.toInt = c := ⟨cols.toInt.toNat, by omega⟩
  have hcn : cols.toInt.toNat = c := by omega
  rw [hcn]
  unfold gk_w
  by_cases g : 0 ≤ f.toInt ∧ f.toInt < (rows * cols).toInt
  · rw [decide_eq_true g, if_neg (by decide)] at e
    by_cases p : k % 2 = 0
    · rw [if_pos (Int32.toInt_inj.mp (by omega))] at e
      have e := ck_x e
      rw [if_pos p, if_pos p]
      have hr := ((i_rem f cols (by omega)).resolve_left (by omega)).1
      rw [hf, hc, ← Int.natCast_emod] at hr
      generalize hz : cols - (1 : Int32) = z at e
      have ez := i_subE hz (by omega) (by omega)
      by_cases q : z ≤ mm_rem f cols
      · have dq := i_le q
        rw [if_pos q] at e
        exact ⟨fun h => absurd h.2 (by omega), fun _ => (sm_i e).symm⟩
      · have dq := i_nle q
        rw [if_neg q] at e
        refine ⟨fun _ => ?_, fun h => absurd (show k / 2 < m ∧ k / 2 % c < c - 1 from ⟨by omega, by omega⟩) h⟩
        rw [← sm_i e, i_addE rfl (by omega) (by omega)]
        omega
    · rw [if_neg (fun h => p (by have := i_eq h; omega)), if_pos (Int32.toInt_inj.mp (by omega))] at e
      rw [if_neg p, if_neg p]
      obtain ⟨fl, ef, e⟩ := mm_bd1s e
      have hfl : rows * cols = fl := sm_i ef
      subst hfl
      generalize hz : f + cols = z at e
      have ez := i_addE hz (by omega) (by omega)
      by_cases q : rows * cols ≤ z
      · have dq := i_le q
        rw [if_pos q] at e
        exact ⟨fun h => absurd h.2 (by omega), fun _ => (sm_i e).symm⟩
      · have dq := i_nle q
        rw [if_neg q] at e
        refine ⟨fun _ => ?_, fun h => absurd (show k / 2 < m ∧ k / 2 + c < m from ⟨by omega, by omega⟩) h⟩
        rw [← sm_i e]
        omega
  · rw [decide_eq_false g, if_pos rfl] at e
    exact ⟨fun h => absurd h.1 (by omega), fun _ => (sm_i e).symm⟩
theorem mk_6 {ln w lim rows cols : Int32} {R C F W : List Int32} {m : Nat} (hm : (rows * cols).toInt = m) (m32 : m ≤ 32) (c0 : 1 ≤ cols.toInt) (c8 : cols.toInt ≤ 8) : ∀ (n : Nat) (x4 x5 : Int32) (be : List Int32) (r : Int32) (be' : List Int32), fX5_markBends_6 700 n ln w lim x4 x5 rows cols R C F W be = some (r, be') → 0 ≤ x5.toInt → x5.toInt ≤ 2 * m → be.length = 64 → be'.length = 64 ∧ (∀ k : Nat, k < x5.toInt.toNat → be'.getD k 0 = be.getD k 0) ∧ (∀ k : Nat, x5.toInt.toNat ≤ k → k < 2 * m → be'.getD k 0 = be_w m cols.toInt.toNat ln w lim R C F W k) ∧ r = x4 + kc_w (fun k => !decide (be_w m cols.toInt.toNat ln w lim R C F W k = 0)) x5.toInt.toNat (2 * m - x5.toInt.toNat) := by
  have n1 : (1 : Int32).toInt = 1 := by decide
  have n0 : (0 : Int32).toInt = 0 := by decide
  intro n
  induction n with
  | zero =>
    intro x4 x5 be r be' e
    exact absurd e (by intro h; cases h)
  | succ n ih =>
    intro x4 x5 be r be' e p0 p1 l
    rw [uf_X5_markBends_6] at e
    obtain ⟨fl, ef, e⟩ := mm_bd1s e
    have hfl : rows * cols = fl := sm_i ef
    subst hfl
    generalize hz : (2 : Int32) * (rows * cols) = z at e
    have ez := i_mulLE (c := 2) (by decide) hz (by omega) (by omega)
    by_cases c : z ≤ x5
    · have d := i_le c
      rw [if_pos c] at e
      apply mm_sub2 e
      have hq : 2 * m - x5.toInt.toNat = 0 := by omega
      refine ⟨l, fun _ _ => rfl, fun k k0 k1 => absurd k1 (by omega), ?_⟩
      rw [hq]
      exact (Int32.add_zero _).symm
    · have d := i_nle c
      rw [if_neg c] at e
      have e := ck_x (ck_x e)
      have hk2 := i_divE (c := 2) (by decide) (by decide) (rfl : x5 / (2 : Int32) = _) p0
      have hm2 := i_remE (c := 2) (by decide) (by decide) (rfl : mm_rem x5 (2 : Int32) = _) p0
      obtain ⟨k, hk⟩ : ∃ k : Nat, x5.toInt = k := ⟨x5.toInt.toNat, by omega⟩
      have hkn : x5.toInt.toNat = k := by omega
      have hkd : (x5 / (2 : Int32)).toInt = (k / 2 : Nat) := by rw [hk2, hk]; omega
      have hkm : (mm_rem x5 (2 : Int32)).toInt = (k % 2 : Nat) := by rw [hm2, hk]; omega
      obtain ⟨r6, e6, e⟩ := mm_bd1s e
      obtain ⟨h6, h6'⟩ := nb_n hm m32 c0 c8 hkd hkm e6
      have E : fX5_markBends_69 700 (fX5_markBends_6 700 n) ln w lim x4 x5 (be_w m cols.toInt.toNat ln w lim R C F W k) x5 rows cols R C F W be = some (r, be') := by
        by_cases g : k / 2 < m ∧ (if k % 2 = 0 then k / 2 % cols.toInt.toNat < cols.toInt.toNat - 1 else k / 2 + cols.toInt.toNat < m)
        · have hr6 := h6 g
          rw [if_neg (fun h => absurd (i_lt h) (by omega))] at e
          have e := ck_x e
          by_cases g2 : W.getD k 0 < lim
          · rw [if_pos (show mm_ig W x5 < lim by rw [ge_ig, hkn]; exact g2)] at e
            have e := ck_x e
            obtain ⟨r12, e12, e⟩ := mm_bd1s e
            have h12 := bb_e e12
            have hb : be_w m cols.toInt.toNat ln w lim R C F W k = r12 := by
              unfold be_w
              rw [if_pos ⟨g, g2⟩, h12]
              have q1 : (x5 / (2 : Int32)).toInt.toNat = k / 2 := by omega
              have q2 : r6.toInt.toNat = gk_w cols.toInt.toNat k := by omega
              rw [q1, q2]
            rw [hb]
            exact e
          · rw [if_neg (show ¬ mm_ig W x5 < lim by rw [ge_ig, hkn]; exact g2), uf_X5_markBends_53] at e
            have hb : be_w m cols.toInt.toNat ln w lim R C F W k = 0 := by
              unfold be_w
              rw [if_neg (fun h => g2 h.2)]
            rw [hb]
            exact e
        · have hr6 := h6' g
          rw [if_pos (by rw [hr6]; decide), uf_X5_markBends_53] at e
          have hb : be_w m cols.toInt.toNat ln w lim R C F W k = 0 := by
            unfold be_w
            rw [if_neg (fun h => g h.1)]
          rw [hb]
          exact e
      rw [uf_X5_markBends_69] at E
      have E := ck_x E
      rw [nm_eq] at E
      have E := ck_x E
      have s1 := ps_is be x5 (be_w m cols.toInt.toNat ln w lim R C F W k)
      rw [ig_p _ _ _ p0 (by omega)] at E
      obtain ⟨u, hu⟩ : ∃ u : Nat, 2 * m - x5.toInt.toNat = u + 1 := ⟨2 * m - x5.toInt.toNat - 1, by omega⟩
      have J : ∀ x4' : Int32, x4' = x4 + (if (!decide (be_w m cols.toInt.toNat ln w lim R C F W k = 0)) = true then (1 : Int32) else (0 : Int32)) → fX5_markBends_83 700 (fX5_markBends_6 700 n) ln w lim x4' x5 rows cols R C F W (mm_is be x5 (be_w m cols.toInt.toNat ln w lim R C F W k)) = some (r, be') → be'.length = 64 ∧ (∀ k : Nat, k < x5.toInt.toNat → be'.getD k 0 = be.getD k 0) ∧ (∀ k : Nat, x5.toInt.toNat ≤ k → k < 2 * m → be'.getD k 0 = be_w m cols.toInt.toNat ln w lim R C F W k) ∧ r = x4 + kc_w (fun k => !decide (be_w m cols.toInt.toNat ln w lim R C F W k = 0)) x5.toInt.toNat (2 * m - x5.toInt.toNat) := by
        intro x4' hx4 e
        rw [uf_X5_markBends_83, nm_eq] at e
        generalize hy : x5 + (1 : Int32) = y at e
        have ey := i_addE hy (by omega) (by omega)
        obtain ⟨q1, q2, q3, q4⟩ := ih x4' y _ r be' e (by omega) (by omega) (by rw [is_len]; exact l)
        refine ⟨q1, fun j hj => ?_, fun j j0 j1 => ?_, ?_⟩
        · rw [q2 j (by omega), ps_ne s1 (by omega) (by omega)]
        · by_cases g : x5.toInt.toNat = j
          · rw [q2 j (by omega), ← g, ps_at s1 (by omega), hkn]
          · exact q3 j (by omega) j1
        · have hu2 : 2 * m - y.toInt.toNat = u := by omega
          have hy2 : y.toInt.toNat = k + 1 := by omega
          rw [q4, hu, hu2, hy2, hx4, hkn, Int32.add_assoc]
          rfl
      by_cases g : be_w m cols.toInt.toNat ln w lim R C F W k = 0
      · rw [if_pos g] at E
        exact J x4 (by rw [decide_eq_true g]; exact (Int32.add_zero _).symm) E
      · rw [if_neg g, nm_eq] at E
        exact J _ (by rw [decide_eq_false g]; rfl) E
end
section
/-! Creases: the reference's bends -/
theorem dv_m {k c r : Nat} (c0 : 1 ≤ c) : (k / c < r - 1) ↔ k + c < r * c := by
  constructor
  · intro h
    have h2 : k / c + 1 ≤ r - 1 := h
    have h3 : k < (k / c + 1) * c := by
      have := Nat.lt_div_mul_add (a := k) (b := c) c0
      rw [Nat.add_mul, Nat.one_mul]
      exact this
    have h4 : (k / c + 1) * c ≤ (r - 1) * c := Nat.mul_le_mul_right c h2
    obtain ⟨q, hq⟩ : ∃ q : Nat, r = q + 1 := by
      cases r with
      | zero => exact absurd h (Nat.not_lt_zero _)
      | succ q => exact ⟨q, rfl⟩
    subst hq
    have h5 : (q + 1 - 1) * c = q * c := by rw [Nat.add_sub_cancel]
    have h6 : (q + 1) * c = q * c + c := by rw [Nat.add_mul, Nat.one_mul]
    omega
  · intro h
    obtain ⟨q, hq⟩ : ∃ q : Nat, r = q + 1 := by
      cases r with
      | zero => exact absurd h (by rw [Nat.zero_mul]; omega)
      | succ q => exact ⟨q, rfl⟩
    subst hq
    have h6 : (q + 1) * c = q * c + c := by rw [Nat.add_mul, Nat.one_mul]
    have h7 : k < q * c := by omega
    have h8 : k / c < q := (Nat.div_lt_iff_lt_mul c0).mpr h7
    omega
theorem ic_e {x rows cols : Int32} {m k : Nat} {r : Bool} (hm : (rows * cols).toInt = m) (hm2 : rows.toInt * cols.toInt = m) (m1 : 1 ≤ m) (m32 : m ≤ 32) (r0 : 1 ≤ rows.toInt) (c0 : 1 ≤ cols.toInt) (c8 : cols.toInt ≤ 8) (hk : x.toInt = k) (k64 : k < 2147483648) (e : fX9_isCrease 700 x rows cols = some r) : r = decide (k / 2 < m ∧ (if k % 2 = 0 then k / 2 % cols.toInt.toNat < cols.toInt.toNat - 1 else k / 2 + cols.toInt.toNat < m)) := by
  have n1 : (1 : Int32).toInt = 1 := by decide
  have n0 : (0 : Int32).toInt = 0 := by decide
  have m0 : (0 : Int64).toInt = 0 := by decide
  have hrb : rows.toInt < 2147483648 := Int32.toInt_lt _
  unfold fX9_isCrease fX9_fields at e
  have e := ck_x e
  rw [nm_eq, bs_1] at e
  generalize hz : (rows * cols) - (1 : Int32) = z at e
  have ez := i_subE hz (by omega) (by omega)
  generalize hf : x / (2 : Int32) = f at e
  have ef := i_divE (c := 2) (by decide) (by decide) hf (by omega)
  rw [wn_x, bs_1, i_64, i_64, m0] at e
  have efk : f.toInt = (k / 2 : Nat) := by rw [ef, hk]; omega
  obtain ⟨c, hc⟩ : ∃ c : Nat, cols.toInt = c := ⟨cols.toInt.toNat, by omega⟩
  have hcn : cols.toInt.toNat = c := by omega
  rw [hcn]
  by_cases g : 0 ≤ f.toInt ∧ f.toInt ≤ z.toInt
  · rw [decide_eq_true g, if_neg (by decide)] at e
    have e := ck_x e
    have hr2 := i_remE (c := 2) (by decide) (by decide) (rfl : mm_rem x (2 : Int32) = _) (by omega)
    by_cases p : k % 2 = 0
    · rw [if_pos (Int32.toInt_inj.mp (by rw [hr2, hk, n0]; omega))] at e
      have e := ck_x e
      have hr := ((i_rem f cols (by omega)).resolve_left (by omega)).1
      rw [efk, hc, ← Int.natCast_emod] at hr
      generalize hy : cols - (1 : Int32) = y at e
      have ey := i_subE hy (by omega) (by omega)
      by_cases q : y ≤ mm_rem f cols
      · have dq := i_le q
        rw [if_pos q] at e
        refine (sm_i e).symm.trans (Eq.symm (decide_eq_false (fun h => ?_)))
        have h2 := h.2
        rw [if_pos p] at h2
        omega
      · have dq := i_nle q
        rw [if_neg q] at e
        refine (sm_i e).symm.trans (Eq.symm (decide_eq_true ⟨by omega, ?_⟩))
        rw [if_pos p]
        omega
    · rw [if_neg (fun h => p (by have := i_eq h; rw [hr2, hk, n0] at this; omega))] at e
      have e := ck_x e
      have hd := (i_div f cols (by omega)).resolve_left (by omega)
      rw [efk, hc, ← Int.natCast_ediv] at hd
      obtain ⟨rn, hrn⟩ : ∃ rn : Nat, rows.toInt = rn := ⟨rows.toInt.toNat, by omega⟩
      have hmn : rn * c = m := by
        have : ((rn * c : Nat) : Int) = m := by rw [Int.natCast_mul, ← hrn, ← hc]; exact hm2
        exact Int.ofNat_inj.mp this
      generalize hy : rows - (1 : Int32) = y at e
      have ey := i_subE hy (by omega) (by omega)
      have W := dv_m (k := k / 2) (c := c) (r := rn) (by omega)
      rw [hmn] at W
      by_cases q : y ≤ f / cols
      · have dq := i_le q
        rw [if_pos q] at e
        refine (sm_i e).symm.trans (Eq.symm (decide_eq_false (fun h => ?_)))
        have h2 := h.2
        rw [if_neg p] at h2
        have h3 := W.mpr h2
        omega
      · have dq := i_nle q
        rw [if_neg q] at e
        refine (sm_i e).symm.trans (Eq.symm (decide_eq_true ⟨by omega, ?_⟩))
        rw [if_neg p]
        exact W.mp (by omega)
  · rw [decide_eq_false g, if_pos rfl] at e
    exact (sm_i e).symm.trans (Eq.symm (decide_eq_false (fun h => absurd h.1 (by omega))))
theorem oo_e {x cols : Int32} {k : Nat} (c0 : 1 ≤ cols.toInt) (c8 : cols.toInt ≤ 8) (hk : x.toInt = k) (k64 : k < 64) : ∃ g : Int32, fX9_otherOf 700 x cols = some g ∧ g.toInt = (gk_w cols.toInt.toNat k : Nat) := by
  have n1 : (1 : Int32).toInt = 1 := by decide
  have n0 : (0 : Int32).toInt = 0 := by decide
  have ef := i_divE (c := 2) (by decide) (by decide) (rfl : x / (2 : Int32) = _) (by omega)
  have hr2 := i_remE (c := 2) (by decide) (by decide) (rfl : mm_rem x (2 : Int32) = _) (by omega)
  have nz : mm_nz (2 : Int32) = true := by decide
  unfold gk_w fX9_otherOf
  rw [nz]
  by_cases p : k % 2 = 0
  · rw [if_pos p]
    refine ⟨x / (2 : Int32) + (1 : Int32), ?_, ?_⟩
    · show (if mm_rem x (2 : Int32) = 0 then some (x / (2 : Int32) + (1 : Int32)) else some (x / (2 : Int32) + cols)) = _
      rw [if_pos (Int32.toInt_inj.mp (by rw [hr2, hk, n0]; omega))]
    · generalize x / (2 : Int32) = f at ef
      rw [i_addE rfl (by omega) (by omega), ef, hk]
      omega
  · rw [if_neg p]
    refine ⟨x / (2 : Int32) + cols, ?_, ?_⟩
    · show (if mm_rem x (2 : Int32) = 0 then some (x / (2 : Int32) + (1 : Int32)) else some (x / (2 : Int32) + cols)) = _
      rw [if_neg (fun h => p (by have := i_eq h; rw [hr2, hk, n0] at this; omega))]
    · generalize x / (2 : Int32) = f at ef
      rw [i_addE rfl (by omega) (by omega), ef, hk]
      omega
theorem bd_18 {lv ln w rows cols tm ba at_ en fa op bw mw : Int32} {lim row col fac wo la tape text names R C F W : List Int32} {m : Nat} {z : (Int32 × Int32 × Int32 × Int32 × Int32 × Int32 × Int32 × Int32 × List Int32 × List Int32 × List Int32 × List Int32)} (hm : (rows * cols).toInt = m) (hm2 : rows.toInt * cols.toInt = m) (m1 : 1 ≤ m) (m32 : m ≤ 32) (r0 : 1 ≤ rows.toInt) (c0 : 1 ≤ cols.toInt) (c8 : cols.toInt ≤ 8) (L0 : 0 ≤ lv.toInt) (L5 : lv.toInt ≤ 5) (w0 : 0 ≤ w.toInt) (w7 : w.toInt ≤ 7) (l1 : 1 ≤ ln.toInt) (hR : ∀ k : Nat, k < m → row.getD (32 * lv.toInt.toNat + k) 0 = R.getD k 0) (hC : ∀ k : Nat, k < m → col.getD (32 * lv.toInt.toNat + k) 0 = C.getD k 0) (hF : ∀ k : Nat, k < m → fac.getD (32 * lv.toInt.toNat + k) 0 = F.getD k 0) (hW : ∀ k : Nat, k < 64 → wo.getD (64 * lv.toInt.toNat + k) 0 = W.getD k 0) : ∀ (n : Nat) (x4 bm : Int32) (be : List Int32), fX9_bendsAll_18 700 n lv ln w x4 rows cols tm ba at_ en fa op bm bw mw lim row col fac wo la tape text names be = some z → 0 ≤ x4.toInt → x4.toInt ≤ 64 → be.length = 64 → ∃ be' : List Int32, be'.length = 64 ∧ (∀ k : Nat, k < x4.toInt.toNat → be'.getD k 0 = be.getD k 0) ∧ (∀ k : Nat, x4.toInt.toNat ≤ k → k < 64 → be'.getD k 0 = be_w m cols.toInt.toNat ln w (lim.getD 0 0) R C F W k) ∧ fX9_bendsAll_87 700 700 lv (0 : Int32) rows cols tm ba at_ en fa op (bm + kc_w (fun k => !decide (be_w m cols.toInt.toNat ln w (lim.getD 0 0) R C F W k = 0)) x4.toInt.toNat (64 - x4.toInt.toNat)) bw mw lim row col fac wo la tape text names be' = some z := by
  have n1 : (1 : Int32).toInt = 1 := by decide
  have n0 : (0 : Int32).toInt = 0 := by decide
  have n64 : (64 : Int32).toInt = 64 := by decide
  intro n
  induction n with
  | zero =>
    intro x4 bm be e
    exact absurd e (by intro h; cases h)
  | succ n ih =>
    intro x4 bm be e p0 p1 l
    rw [uf_X9_bendsAll_18] at e
    by_cases c : (64 : Int32) ≤ x4
    · have d := i_le c
      rw [if_pos c] at e
      have hq : 64 - x4.toInt.toNat = 0 := by omega
      refine ⟨be, l, fun _ _ => rfl, fun k k0 k1 => absurd k1 (by omega), ?_⟩
      rw [hq]
      show fX9_bendsAll_87 700 700 lv (0 : Int32) rows cols tm ba at_ en fa op (bm + 0) bw mw lim row col fac wo la tape text names be = some z
      rw [Int32.add_zero]
      exact e
    · have d := i_nle c
      rw [if_neg c] at e
      obtain ⟨k, hk⟩ : ∃ k : Nat, x4.toInt = k := ⟨x4.toInt.toNat, by omega⟩
      have hkn : x4.toInt.toNat = k := by omega
      obtain ⟨r2, e2, e⟩ := mm_bd1s e
      have h2 := ic_e hm hm2 m1 m32 r0 c0 c8 hk (by omega) e2
      have E : fX9_bendsAll_53 700 (fX9_bendsAll_18 700 n) lv ln w x4 (be_w m cols.toInt.toNat ln w (lim.getD 0 0) R C F W k) x4 rows cols tm ba at_ en fa op bm bw mw lim row col fac wo la tape text names be = some z := by
        by_cases g : (k / 2 < m ∧ (if k % 2 = 0 then k / 2 % cols.toInt.toNat < cols.toInt.toNat - 1 else k / 2 + cols.toInt.toNat < m))
        · rw [h2, decide_eq_true g, if_neg (by decide)] at e
          obtain ⟨r5, e5, e⟩ := mm_bd1s e
          obtain ⟨o, eo, ho⟩ := oo_e c0 c8 hk (by omega)
          have h5 := bo_9 w0 w7 l1 rfl eo e5
          have hd := i_divE (c := 2) (by decide) (by decide) (rfl : x4 / (2 : Int32) = _) p0
          have hf : (x4 / (2 : Int32)).toInt = (k / 2 : Nat) := by rw [hd, hk]; omega
          have hgk : gk_w cols.toInt.toNat k < m := by
            unfold gk_w
            by_cases p : k % 2 = 0
            · rw [if_pos p] at g ⊢
              have g1 := g.1
              have g2 := g.2
              have hmm : m = rows.toInt.toNat * cols.toInt.toNat := by
                have : ((rows.toInt.toNat * cols.toInt.toNat : Nat) : Int) = m := by
                  rw [Int.natCast_mul, Int.toNat_of_nonneg (by omega), Int.toNat_of_nonneg (by omega)]
                  exact hm2
                omega
              generalize cols.toInt.toNat = cn at g2 hmm
              generalize k / 2 = f at g1 g2 ⊢
              have hq := Nat.div_add_mod f cn
              have hlt : f / cn < rows.toInt.toNat := by
                apply (Nat.div_lt_iff_lt_mul (by omega)).mpr
                omega
              have h6 : cn * (f / cn) + cn ≤ rows.toInt.toNat * cn := by
                have := Nat.mul_le_mul_right cn (show f / cn + 1 ≤ rows.toInt.toNat from hlt)
                rw [Nat.add_mul, Nat.one_mul, Nat.mul_comm (f / cn)] at this
                exact this
              omega
            · rw [if_neg p] at g ⊢
              exact g.2
          rw [iy_e L0 L5 p0 (by omega), ix_e L0 L5 (by omega) (by omega), ix_e L0 L5 (by omega) (by omega), show (x4 / (2 : Int32)).toInt.toNat = k / 2 by omega, show o.toInt.toNat = gk_w cols.toInt.toNat k by omega, hkn, hW k (by omega), hR _ g.1, hR _ hgk, hC _ g.1, hC _ hgk, hF _ g.1, hF _ hgk] at h5
          have hb : be_w m cols.toInt.toNat ln w (lim.getD 0 0) R C F W k = r5 := by
            rw [h5]
            unfold be_w
            by_cases g2 : W.getD k 0 < lim.getD 0 0
            · rw [if_pos ⟨g, g2⟩, if_pos g2]
            · rw [if_neg (fun h => g2 h.2), if_neg g2]
          rw [hb]
          exact e
        · rw [h2, decide_eq_false g, if_pos rfl] at e
          have hb : be_w m cols.toInt.toNat ln w (lim.getD 0 0) R C F W k = 0 := by
            unfold be_w
            rw [if_neg (fun h => g h.1)]
          rw [hb]
          exact e
      rw [uf_X9_bendsAll_53] at E
      have E := ck_x E
      rw [nm_eq] at E
      have E := ck_x E
      have s1 := ps_is be x4 (be_w m cols.toInt.toNat ln w (lim.getD 0 0) R C F W k)
      rw [ig_p _ _ _ p0 (by omega)] at E
      obtain ⟨u, hu⟩ : ∃ u : Nat, 64 - x4.toInt.toNat = u + 1 := ⟨64 - x4.toInt.toNat - 1, by omega⟩
      have J : ∀ v : Int32, v = (if (!decide (be_w m cols.toInt.toNat ln w (lim.getD 0 0) R C F W k = 0)) = true then (1 : Int32) else (0 : Int32)) → fX9_bendsAll_74 700 (fX9_bendsAll_18 700 n) lv ln w x4 v bm rows cols tm ba at_ en fa op bm bw mw lim row col fac wo la tape text names (mm_is be x4 (be_w m cols.toInt.toNat ln w (lim.getD 0 0) R C F W k)) = some z → ∃ be' : List Int32, be'.length = 64 ∧ (∀ k : Nat, k < x4.toInt.toNat → be'.getD k 0 = be.getD k 0) ∧ (∀ k : Nat, x4.toInt.toNat ≤ k → k < 64 → be'.getD k 0 = be_w m cols.toInt.toNat ln w (lim.getD 0 0) R C F W k) ∧ fX9_bendsAll_87 700 700 lv (0 : Int32) rows cols tm ba at_ en fa op (bm + kc_w (fun k => !decide (be_w m cols.toInt.toNat ln w (lim.getD 0 0) R C F W k = 0)) x4.toInt.toNat (64 - x4.toInt.toNat)) bw mw lim row col fac wo la tape text names be' = some z := by
        intro v hv e
        rw [uf_X9_bendsAll_74, nm_eq, nm_eq] at e
        generalize hy : x4 + (1 : Int32) = y at e
        have ey := i_addE hy (by omega) (by omega)
        obtain ⟨be', q1, q2, q3, q4⟩ := ih y (bm + v) _ e (by omega) (by omega) (by rw [is_len]; exact l)
        refine ⟨be', q1, fun j hj => ?_, fun j j0 j1 => ?_, ?_⟩
        · rw [q2 j (by omega), ps_ne s1 (by omega) (by omega)]
        · by_cases g : x4.toInt.toNat = j
          · rw [q2 j (by omega), ← g, ps_at s1 (by omega), hkn]
          · exact q3 j (by omega) j1
        · have hu2 : 64 - y.toInt.toNat = u := by omega
          have hy2 : y.toInt.toNat = k + 1 := by omega
          rw [hu2, hy2, hv, Int32.add_assoc] at q4
          rw [hu, hkn]
          exact q4
      rcases be_3 m cols.toInt.toNat ln w (lim.getD 0 0) R C F W k with g | g | g
      · rw [if_pos (show be_w m cols.toInt.toNat ln w (lim.getD 0 0) R C F W k ≤ 0 by rw [g]; decide)] at E
        exact J 0 (by rw [decide_eq_true g]; rfl) E
      · rw [if_neg (show ¬ be_w m cols.toInt.toNat ln w (lim.getD 0 0) R C F W k ≤ 0 by rw [g]; decide)] at E
        exact J 1 (by rw [decide_eq_false (by rw [g]; decide)]; rfl) E
      · rw [if_neg (show ¬ be_w m cols.toInt.toNat ln w (lim.getD 0 0) R C F W k ≤ 0 by rw [g]; decide)] at E
        exact J 1 (by rw [decide_eq_false (by rw [g]; decide)]; rfl) E
end
section
/-! Creases: what is worn -/
/-- the wearing law alike: none in force, or the class's steps are read from the reference's text -/
def lr_w (sc tm : Int32) (stp text : List Int32) : Prop := (sc = 0 ∧ tm.toInt < 0) ∨ (0 ≤ tm.toInt ∧ tm.toInt ≤ 120 ∧ ∃ (tape8 stp0 D0 D' : List Int32) (sc0 dc0 pl0 fa0 r8 s8 dc' p' : Int32), (∀ tape : List Int32, hb_w (fun k => tape8.getD k 0) 0 tm tape text) ∧ stp0.length = 121 ∧ D0.length = 121 ∧ fX2_readTape 700 tm sc0 dc0 pl0 fa0 tape8 stp0 D0 = some (r8, s8, sc, dc', p', -1, stp, D'))
theorem n6_e {l : List Int32} (h : l.length = 6) (x1 x2 x3 x4 x5 x6 : Int32) : mm_is (mm_is (mm_is (mm_is (mm_is (mm_is l (0 : Int32) x1) (1 : Int32) x2) (2 : Int32) x3) (3 : Int32) x4) (4 : Int32) x5) (5 : Int32) x6 = [x1, x2, x3, x4, x5, x6] := by
  match l, h with
  | [a, b, c, d, e, f], _ => rfl
theorem wv_e {n y s k c sc sk tm ba at_ en fa op r r' sk' b1 a1 n1 f1 o1 : Int32} {stp st st' tape text names nm' : List Int32} (H : lr_w sc tm stp text) (ln : names.length = 6) (ls : st.length = 121) (e8 : fX2_worth 700 n y s (mm_rem k (2 : Int32)) (k / (2 : Int32)) c sc sk stp st = some (r, sk', st')) (e9 : fX9_wears 700 n y s k c tm ba at_ en fa op tape text names = some (r', b1, a1, n1, f1, o1, nm')) : r = r' ∧ nm'.length = 6 := by
  have n0 : (0 : Int32).toInt = 0 := by decide
  unfold fX9_wears at e9
  rcases H with ⟨h1, h2⟩ | ⟨h1, h2, tape8, stp0, D0, D', sc0, dc0, pl0, fa0, r8, s8, dc', p', hb, g1, g2, e⟩
  · rw [if_neg (fun h => absurd (i_le h) (by omega))] at e9
    unfold fX2_worth at e8
    rw [if_pos h1] at e8
    apply mm_sub7 e9
    apply mm_sub3 e8
    exact ⟨rfl, ln⟩
  · rw [if_pos (Int32.le_iff_toInt_le.mpr (by omega))] at e9
    have e9 := ck_x e9
    rw [nm_eq] at e9
    have e9 := ck_x e9
    rw [nm_eq] at e9
    have e9 := ck_x e9
    rw [nm_eq] at e9
    have e9 := ck_x e9
    rw [nm_eq] at e9
    have e9 := ck_x e9
    rw [nm_eq] at e9
    have e9 := ck_x e9
    rw [nm_eq] at e9
    have e9 := ck_x e9
    rw [nm_eq] at e9
    have e9 := ck_x e9
    rw [nm_eq, n6_e ln] at e9
    obtain ⟨g, q1, q2, q3, q4, q5, eg, e9⟩ := mm_bd6s e9
    obtain ⟨_, _, _, W⟩ := lw_e (hb tape) h1 h2 g1 g2 e eg
    rcases W with W | ⟨_, P, p1, p2, p3, p4, p5⟩
    · exact absurd W.1 (by decide)
    have hr := wr_e p2 p3 p4 p1 ls e8
    rw [← p5 []] at hr
    have hg : r' = cl_w g ∧ nm' = [n, y, s, mm_rem k (2 : Int32), k / (2 : Int32), c] := by
      have n9 : (9 : Int32).toInt = 9 := by decide
      have hc : (cl_w g).toInt = max 0 (min 9 g.toInt) := by
        unfold cl_w
        rw [i_max, i_min, n0, n9]
      by_cases k1 : 0 ≤ g
      · have d1 := i_le k1
        rw [if_pos k1] at e9
        by_cases k2 : g ≤ (9 : Int32)
        · have d2 := i_le k2
          rw [if_pos k2] at e9
          apply mm_sub7 e9
          exact ⟨Int32.toInt_inj.mp (by rw [hc]; omega), rfl⟩
        · have d2 := i_nle k2
          rw [if_neg k2] at e9
          apply mm_sub7 e9
          exact ⟨Int32.toInt_inj.mp (by rw [hc, n9]; omega), rfl⟩
      · have d1 := i_nle k1
        rw [if_neg k1] at e9
        apply mm_sub7 e9
        exact ⟨Int32.toInt_inj.mp (by rw [hc, n0]; omega), rfl⟩
    exact ⟨hr.trans hg.1.symm, by rw [hg.2]; rfl⟩
theorem m99_e (y : Int32) : (if y ≤ (99 : Int32) then y else (99 : Int32)) = mm_min (99 : Int32) y := by
  unfold mm_min
  by_cases k : y ≤ (99 : Int32)
  · have d := i_le k
    rw [if_pos k]
    by_cases k2 : y < (99 : Int32)
    · rw [if_pos k2]
    · have d2 := i_nlt k2
      rw [if_neg k2]
      exact Int32.toInt_inj.mp (by omega)
  · have d := i_nle k
    rw [if_neg k, if_neg (fun h => absurd (i_lt h) (by omega))]
theorem wc_29 {k x2 s wr mo wr' mo' sc sk sk' : Int32} {W La be W' La' stp st st' : List Int32} (k0 : 0 ≤ k.toInt) (k1 : k.toInt < W.length) (e : fX5_wear_29 700 k x2 s wr mo W La be sc sk stp st = some (wr', mo', W', La', sk', st')) : ∃ g : Int32, fX2_worth 700 x2 (mm_ig W k) s (mm_rem k (2 : Int32)) (k / (2 : Int32)) (mm_ig be k) sc sk stp st = some (g, sk', st') ∧ W' = mm_is W k (mm_min (99 : Int32) (mm_ig W k + g)) ∧ La' = mm_is La k (mm_ig be k) ∧ mo' = mo + (mm_min (99 : Int32) (mm_ig W k + g) - mm_ig W k) ∧ wr' = wr + s := by
  unfold fX5_wear_29 at e
  have e := ck_x e
  rw [nm_eq] at e
  have e := ck_x (ck_x (ck_x e))
  obtain ⟨g, w12, w13, eg, e⟩ := mm_bd3s e
  rw [nm_eq] at e
  have e := ck_x e
  rw [nm_eq] at e
  have e := ck_x e
  rw [nm_eq] at e
  have e := ck_x e
  rw [nm_eq] at e
  have e := ck_x e
  rw [nm_eq, nm_eq, ig_p _ _ _ k0 k1] at e
  apply mm_sub6 e
  exact ⟨g, eg, rfl, rfl, rfl, rfl⟩
theorem wb_148 {kk : Int32 → Int32 → Int32 → Int32 → Int32 → Int32 → Int32 → Int32 → Int32 → Int32 → Int32 → Int32 → Int32 → List Int32 → List Int32 → List Int32 → List Int32 → List Int32 → List Int32 → List Int32 → List Int32 → List Int32 → List Int32 → Option (Int32 × Int32 × Int32 × Int32 × Int32 × Int32 × Int32 × Int32 × List Int32 × List Int32 × List Int32 × List Int32)} {lv x4 x5 s rows cols tm ba at_ en fa op bm bw mw : Int32} {lim row col fac wo la tape text names be : List Int32} {z : (Int32 × Int32 × Int32 × Int32 × Int32 × Int32 × Int32 × Int32 × List Int32 × List Int32 × List Int32 × List Int32)} (k0 : 0 ≤ x5.toInt) (k1 : x5.toInt < wo.length) (e : fX9_bendsAll_148 700 kk lv x4 x5 s rows cols tm ba at_ en fa op bm bw mw lim row col fac wo la tape text names be = some z) : ∃ (g b1 a1 n1 f1 o1 : Int32) (nm' : List Int32), fX9_wears 700 bm (mm_ig wo x5) s x4 (mm_ig be x4) tm ba at_ en fa op tape text names = some (g, b1, a1, n1, f1, o1, nm') ∧ kk lv (x4 + (1 : Int32)) rows cols tm b1 a1 n1 f1 o1 bm (bw + s) (mw + (mm_min (99 : Int32) (mm_ig wo x5 + g) - mm_ig wo x5)) lim row col fac (mm_is wo x5 (mm_min (99 : Int32) (mm_ig wo x5 + g))) (mm_is la x5 (mm_ig be x4)) tape text nm' be = some z := by
  rw [uf_X9_bendsAll_148] at e
  have e := ck_x e
  rw [nm_eq] at e
  have e := ck_x e
  obtain ⟨g, b1, a1, n1, f1, o1, nm', eg, e⟩ := mm_bd7s e
  rw [nm_eq] at e
  refine ⟨g, b1, a1, n1, f1, o1, nm', eg, ?_⟩
  have E : fX9_bendsAll_205 700 kk lv x4 x5 s (mm_ig wo x5) (mm_min (99 : Int32) (mm_ig wo x5 + g)) x5 rows cols tm b1 a1 n1 f1 o1 bm bw mw lim row col fac wo la tape text nm' be = some z := by
    rw [← m99_e]
    by_cases k : mm_ig wo x5 + g ≤ (99 : Int32)
    · rw [if_pos k] at e ⊢
      exact e
    · rw [if_neg k] at e ⊢
      exact e
  rw [uf_X9_bendsAll_205] at E
  have E := ck_x E
  rw [nm_eq] at E
  have E := ck_x E
  rw [nm_eq] at E
  have E := ck_x E
  rw [nm_eq, nm_eq] at E
  have E := ck_x E
  rw [nm_eq, ig_p _ _ _ k0 k1, uf_X9_bendsAll_250, nm_eq] at E
  exact E
/-- no crease bends any more -/
theorem bz_87 {lv rows cols tm ba at_ en fa op bm bw mw : Int32} {lim row col fac wo la tape text names be : List Int32} {z : (Int32 × Int32 × Int32 × Int32 × Int32 × Int32 × Int32 × Int32 × List Int32 × List Int32 × List Int32 × List Int32)} : ∀ (n : Nat) (x4 : Int32), fX9_bendsAll_87 700 n lv x4 rows cols tm ba at_ en fa op bm bw mw lim row col fac wo la tape text names be = some z → 0 ≤ x4.toInt → (∀ k : Nat, x4.toInt.toNat ≤ k → k < 64 → be.getD k 0 = 0) → z = (ba, at_, en, fa, op, bm, bw, mw, wo, la, names, be) := by
  have n1 : (1 : Int32).toInt = 1 := by decide
  have n64 : (64 : Int32).toInt = 64 := by decide
  intro n
  induction n with
  | zero =>
    intro x4 e
    exact absurd e (by intro h; cases h)
  | succ n ih =>
    intro x4 e p0 H
    rw [uf_X9_bendsAll_87] at e
    by_cases c : (64 : Int32) ≤ x4
    · rw [if_pos c] at e
      exact (sm_i e).symm
    · have d := i_nle c
      rw [if_neg c] at e
      have e := ck_x e
      rw [if_pos (show mm_ig be x4 = 0 by rw [ge_ig]; exact H _ (by omega) (by omega)), uf_X9_bendsAll_250, nm_eq] at e
      generalize hy : x4 + (1 : Int32) = y at e
      have ey := i_addE hy (by omega) (by omega)
      exact ih y e (by omega) (fun k k0 k1 => H k (by omega) k1)
def wk_w (lv : Nat) (W wo : List Int32) : Prop := ∀ k : Nat, k < 64 → wo.getD (64 * lv + k) 0 = W.getD k 0
theorem wk_is {lv : Int32} {W wo : List Int32} {x y v : Int32} (h : wk_w lv.toInt.toNat W wo) (l1 : W.length = 64) (l2 : wo.length = 384) (L0 : 0 ≤ lv.toInt) (L5 : lv.toInt ≤ 5) (x0 : 0 ≤ x.toInt) (x1 : x.toInt < 64) (hy : y.toInt.toNat = 64 * lv.toInt.toNat + x.toInt.toNat) : wk_w lv.toInt.toNat (mm_is W x v) (mm_is wo y v) := by
  intro k hk
  have s1 := ps_is W x v
  have s2 := ps_is wo y v
  by_cases g : x.toInt.toNat = k
  · subst g
    rw [ps_at s1 (by omega), ← hy, ps_at s2 (by omega)]
  · rw [ps_ne s1 (by omega) g, ps_ne s2 (by omega) (by omega)]
    exact h k hk
theorem wl_e {x1 x2 lv rows cols hg wd folds sc tm wr0 mo0 bm : Int32} {R C B F be T stp lim row col fac tape text bends : List Int32} {m : Nat} {r h' w' fo' wr' mo' sk' b1 a1 n1 f1 o1 bm' bw' mw' : Int32} {R' C' B' F' W' La' be' T' st' wo' la' nm' bends' : List Int32} (hm : (rows * cols).toInt = m) (m32 : m ≤ 32) (L0 : 0 ≤ lv.toInt) (L5 : lv.toInt ≤ 5) (H : lr_w sc tm stp text) (s0 : 0 ≤ sc.toInt) (s1 : sc.toInt ≤ 121) (sl : stp.length = 121) (lb : be.length = 64) (hb : ∀ k : Nat, k < 2 * m → be.getD k 0 = bends.getD k 0) (hz : ∀ k : Nat, 2 * m ≤ k → k < 64 → bends.getD k 0 = 0) : ∀ (n n' : Nat) (x6 wr mo bw mw sk ba at_ en fa op : Int32) (W La wo la st names : List Int32), fX5_bendAndTurn_12 700 n x1 x2 bm x6 rows cols hg wd folds wr mo R C B F W La be T sc sk stp st = some (r, h', w', fo', wr', mo', R', C', B', F', W', La', be', T', sk', st') → fX9_bendsAll_87 700 n' lv x6 rows cols tm ba at_ en fa op bm bw mw lim row col fac wo la tape text names bends = some (b1, a1, n1, f1, o1, bm', bw', mw', wo', la', nm', bends') → 0 ≤ x6.toInt → x6.toInt ≤ 2 * m → W.length = 64 → La.length = 64 → wo.length = 384 → la.length = 384 → st.length = 121 → names.length = 6 → wk_w lv.toInt.toNat W wo → wk_w lv.toInt.toNat La la → wr = wr0 + bw → mo = mo0 + mw → r = bm ∧ bm' = bm ∧ wr' = wr0 + bw' ∧ mo' = mo0 + mw' ∧ wk_w lv.toInt.toNat W' wo' ∧ wk_w lv.toInt.toNat La' la' ∧ W'.length = 64 ∧ La'.length = 64 ∧ wo'.length = 384 ∧ la'.length = 384 ∧ nm'.length = 6 ∧ bends' = bends ∧ (∀ k : Nat, k < 64 * lv.toInt.toNat ∨ 64 * lv.toInt.toNat + 64 ≤ k → k < 384 → wo'.getD k 0 = wo.getD k 0 ∧ la'.getD k 0 = la.getD k 0) := by
  have n1' : (1 : Int32).toInt = 1 := by decide
  have n64 : (64 : Int32).toInt = 64 := by decide
  intro n
  induction n with
  | zero =>
    intro n' x6 wr mo bw mw sk ba at_ en fa op W La wo la st names e
    exact absurd e (by intro h; cases h)
  | succ n ih =>
    intro n' x6 wr mo bw mw sk ba at_ en fa op W La wo la st names e8 e9 p0 p1 l1 l2 l3 l4 l5 l6 q1 q2 q3 q4
    rw [uf_X5_bendAndTurn_12] at e8
    obtain ⟨fl, ef, e8⟩ := mm_bd1s e8
    have hfl : rows * cols = fl := sm_i ef
    subst hfl
    generalize hz2 : (2 : Int32) * (rows * cols) = z at e8
    have ez := i_mulLE (c := 2) (by decide) hz2 (by omega) (by omega)
    by_cases c : z ≤ x6
    · have d := i_le c
      rw [if_pos c] at e8
      obtain ⟨w7, w8, w9, w10, w11, w12, w13, et, e8⟩ := mm_bd7s e8
      rw [nm_eq] at e8
      have hr := bz_87 _ _ e9 p0 (fun k k0 k1 => hz k (by omega) k1)
      apply mm_sub16 e8
      apply mm_sub12 (congrArg some hr.symm)
      exact ⟨rfl, rfl, q3, q4, q1, q2, l1, l2, l3, l4, l6, rfl, fun _ _ _ => ⟨rfl, rfl⟩⟩
    · have d := i_nle c
      rw [if_neg c] at e8
      have e8 := ck_x e8
      cases n' with
      | zero => exact absurd e9 (by intro h; cases h)
      | succ n' =>
        rw [uf_X9_bendsAll_87, if_neg (fun h => absurd (i_le h) (by omega))] at e9
        have e9 := ck_x e9
        have hbe : mm_ig bends x6 = mm_ig be x6 := by
          rw [ge_ig, ge_ig]
          exact (hb _ (by omega)).symm
        rw [hbe] at e9
        generalize hy : x6 + (1 : Int32) = y at *
        have ey := i_addE hy (by omega) (by omega)
        by_cases k : mm_ig be x6 = 0
        · rw [if_pos k, uf_X5_bendAndTurn_43, nm_eq, hy] at e8
          rw [if_pos k, uf_X9_bendsAll_250, nm_eq, hy] at e9
          exact ih n' y wr mo bw mw sk ba at_ en fa op W La wo la st names e8 e9 (by omega) (by omega) l1 l2 l3 l4 l5 l6 q1 q2 q3 q4
        · rw [if_neg k] at e8 e9
          rw [nm_eq] at e9
          have e9 := ck_x e9
          obtain ⟨w18, w19, w20, w21, w22, w23, ew, e8⟩ := mm_bd6s e8
          rw [uf_X5_bendAndTurn_43, nm_eq, hy] at e8
          generalize hx5 : ((64 : Int32) * lv) + x6 = x5 at e9
          have i5' : x5.toInt = 64 * lv.toInt + x6.toInt := by
            generalize hy6 : (64 : Int32) * lv = y6 at hx5
            have e1 := i_mulLE (c := 64) (by decide) hy6 (by omega) (by omega)
            have e2 := i_addE hx5 (by omega) (by omega)
            omega
          have i5 : x5.toInt.toNat = 64 * lv.toInt.toNat + x6.toInt.toNat := by omega
          have i50 : 0 ≤ x5.toInt := by omega
          have i51 : x5.toInt < 384 := by omega
          have hla : mm_ig la x5 = mm_ig La x6 := by
            rw [ge_ig, ge_ig, i5]
            exact q2 _ (by omega)
          have hwo : mm_ig wo x5 = mm_ig W x6 := by
            rw [ge_ig, ge_ig, i5]
            exact q1 _ (by omega)
          -- one crease worn
          have G : ∀ s : Int32, fX5_wear_29 700 x6 bm s wr mo W La be sc sk stp st = some (w18, w19, w20, w21, w22, w23) → fX9_bendsAll_148 700 (fX9_bendsAll_87 700 n') lv x6 x5 s rows cols tm ba at_ en fa op bm bw mw lim row col fac wo la tape text names bends = some (b1, a1, n1, f1, o1, bm', bw', mw', wo', la', nm', bends') → r = bm ∧ bm' = bm ∧ wr' = wr0 + bw' ∧ mo' = mo0 + mw' ∧ wk_w lv.toInt.toNat W' wo' ∧ wk_w lv.toInt.toNat La' la' ∧ W'.length = 64 ∧ La'.length = 64 ∧ wo'.length = 384 ∧ la'.length = 384 ∧ nm'.length = 6 ∧ bends' = bends ∧ (∀ k : Nat, k < 64 * lv.toInt.toNat ∨ 64 * lv.toInt.toNat + 64 ≤ k → k < 384 → wo'.getD k 0 = wo.getD k 0 ∧ la'.getD k 0 = la.getD k 0) := by
            intro s d8 d9
            obtain ⟨g, dg, dW, dL, dm, dr⟩ := wc_29 p0 (by omega) d8
            obtain ⟨g', c1, c2, c3, c4, c5, cn, dg', d9⟩ := wb_148 i50 (by omega) d9
            rw [hwo, hbe] at dg'
            obtain ⟨hg, hn⟩ := wv_e H l6 l5 dg dg'
            subst hg
            rw [hwo, hbe, hy] at d9
            have l5' : w23.length = 121 := by
              obtain ⟨q, hq, hw⟩ := sf_X2_worth (N := 700) (Nat.le_refl _) (x1 := bm) (x2 := mm_ig W x6) (x3 := s) (x4 := mm_rem x6 (2 : Int32)) (x5 := x6 / (2 : Int32)) (x6 := mm_ig be x6) (v_stacked := sk) s0 s1 sl l5
              rw [dg] at hq
              cases hq
              exact hw
            have A := ih n' y w18 w19 (bw + s) (mw + (mm_min (99 : Int32) (mm_ig W x6 + g) - mm_ig W x6)) w22 c1 c2 c3 c4 c5 w20 w21 _ _ w23 cn e8 d9 (by omega) (by omega) (by rw [dW, is_len]; exact l1) (by rw [dL, is_len]; exact l2) (by rw [is_len]; exact l3) (by rw [is_len]; exact l4) l5' hn (by rw [dW]; exact wk_is q1 l1 l3 L0 L5 p0 (by omega) i5) (by rw [dL]; exact wk_is q2 l2 l4 L0 L5 p0 (by omega) i5) (by rw [dr, q3, Int32.add_assoc]) (by rw [dm, q4, Int32.add_assoc])
            obtain ⟨a1, a2, a3, a4, a5, a6, a7, a8, a9, a10, a11, a12, a13⟩ := A
            refine ⟨a1, a2, a3, a4, a5, a6, a7, a8, a9, a10, a11, a12, fun k k0 k1 => ?_⟩
            obtain ⟨u1, u2⟩ := a13 k k0 k1
            exact ⟨u1.trans (ps_ne (ps_is wo x5 _) (by omega) (by omega)), u2.trans (ps_ne (ps_is la x5 _) (by omega) (by omega))⟩
          unfold fX5_wear at ew
          have ew := ck_x ew
          rw [hla] at e9
          by_cases c1 : mm_ig La x6 = 0
          · rw [if_pos c1] at ew e9
            unfold fX5_wear_28 at ew
            rw [uf_X9_bendsAll_147] at e9
            exact G 0 ew e9
          · rw [if_neg c1] at ew e9
            have ew := ck_x (ck_x ew)
            have e9 := ck_x (ck_x e9)
            by_cases c2 : mm_ig La x6 = mm_ig be x6
            · rw [if_pos c2] at ew e9
              unfold fX5_wear_28 at ew
              rw [uf_X9_bendsAll_147] at e9
              exact G 0 ew e9
            · rw [if_neg c2] at ew e9
              exact G 1 ew e9
end
section
/-! Creases: a whole fold -/
theorem kc_z {p : Nat → Bool} : ∀ (n a : Nat), (∀ k : Nat, a ≤ k → k < a + n → p k = false) → kc_w p a n = 0 := by
  intro n
  induction n with
  | zero =>
    intro a _
    rfl
  | succ n ih =>
    intro a h
    show (if p a = true then (1 : Int32) else (0 : Int32)) + kc_w p (a + 1) n = 0
    rw [ih (a + 1) (fun k k0 k1 => h k (by omega) (by omega)), h a (by omega) (by omega), if_neg (by decide)]
    rfl
theorem kc_a {p : Nat → Bool} : ∀ (n a n2 : Nat), kc_w p a (n + n2) = kc_w p a n + kc_w p (a + n) n2 := by
  intro n
  induction n with
  | zero =>
    intro a n2
    rw [Nat.zero_add, Nat.add_zero]
    exact (Int32.zero_add _).symm
  | succ n ih =>
    intro a n2
    rw [show n + 1 + n2 = (n + n2) + 1 by omega]
    show (if p a = true then (1 : Int32) else (0 : Int32)) + kc_w p (a + 1) (n + n2) = ((if p a = true then (1 : Int32) else (0 : Int32)) + kc_w p (a + 1) n) + kc_w p (a + (n + 1)) n2
    rw [ih (a + 1) n2, Int32.add_assoc, show a + 1 + n = a + (n + 1) by omega]
/-- what is counted lies below 2 m -/
theorem kc_m {p : Nat → Bool} {m : Nat} (m32 : m ≤ 32) (h : ∀ k : Nat, 2 * m ≤ k → p k = false) : kc_w p 0 64 = kc_w p 0 (2 * m) := by
  have e : 64 = 2 * m + (64 - 2 * m) := by omega
  rw [e, kc_a, kc_z (64 - 2 * m) (0 + 2 * m) (fun k k0 _ => h k (by omega)), Int32.add_zero]
theorem be_z {m c : Nat} {ln w lim : Int32} {R C F W : List Int32} {k : Nat} (h : 2 * m ≤ k) : be_w m c ln w lim R C F W k = 0 := by
  unfold be_w
  rw [if_neg (fun g => absurd g.1.1 (by omega))]
set_option maxHeartbeats 4000000 in
theorem bc_e {lv x1 x2 x3 rows cols hg wd fo wr mo : Int32} {R C B F W A be T : List Int32} {sc sk : Int32} {stp st : List Int32} {r h' w' fo' wr' mo' : Int32} {R' C' B' F' W' A' be' T' : List Int32} {sk' : Int32} {st' : List Int32} {tm ba at_ en fa op bm bw mw : Int32} {lim sR sC row col bel fac wo la tape text nam ben hi to PS : List Int32} {ba' at' en' fa' op' bm' bw' mw' : Int32} {sR' sC' row' col' bel' fac' wo' la' nam' ben' hi' to' PS' : List Int32} (L0 : 0 ≤ lv.toInt) (L5 : lv.toInt ≤ 5) (g : gi_sh rows cols hg wd R C B F W A be T) (s0 : 0 ≤ sc.toInt) (s1 : sc.toInt ≤ 121) (s2 : stp.length = 121) (s3 : st.length = 121) (o : ok_w x1 x2 hg wd) (ln : ln_w sR sC row col bel fac hi to PS) (rl : lg_w lv.toInt.toNat rows cols hg wd R C B F sR sC row col bel fac) (H : lr_w sc tm stp text) (hl : lim.getD 0 0 = x3) (k1 : wo.length = 384) (k2 : la.length = 384) (k3 : nam.length = 6) (k4 : ben.length = 64) (hW : wk_w lv.toInt.toNat W wo) (hA : wk_w lv.toInt.toNat A la) (e8 : fX5_bendAndTurn 700 x1 x2 x3 rows cols hg wd fo wr mo R C B F W A be T sc sk stp st = some (r, h', w', fo', wr', mo', R', C', B', F', W', A', be', T', sk', st')) (e9 : fX9_foldsOn 700 lv x1 x2 rows cols tm ba at_ en fa op bm bw mw lim sR sC row col bel fac wo la tape text nam ben hi to PS = some (ba', at', en', fa', op', bm', bw', mw', sR', sC', row', col', bel', fac', wo', la', nam', ben', hi', to', PS')) : r = bm' ∧ wr' = wr + bw' ∧ mo' = mo + mw' ∧ wk_w lv.toInt.toNat W' wo' ∧ wk_w lv.toInt.toNat A' la' ∧ wo'.length = 384 ∧ la'.length = 384 ∧ nam'.length = 6 ∧ ben'.length = 64 ∧ (∀ k : Nat, k < 64 * lv.toInt.toNat ∨ 64 * lv.toInt.toNat + 64 ≤ k → k < 384 → wo'.getD k 0 = wo.getD k 0 ∧ la'.getD k 0 = la.getD k 0) := by
  have n0 : (0 : Int32).toInt = 0 := by decide
  have y0 : (0 : Int32).toInt.toNat = 0 := by decide
  obtain ⟨a0, a1, a2, a3, a4, a5, a6, a7, a8, a9, a10, a11, a12, a13, a14, a15, a16, a17⟩ := id g
  obtain ⟨l1, l2, l3⟩ := id rl
  have hf := i_fl a0 a1 a2 a3
  have hm : (rows * cols).toInt = ((rows.toInt * cols.toInt).toNat : Nat) := by omega
  have m32 : (rows.toInt * cols.toInt).toNat ≤ 32 := by omega
  unfold fX5_bendAndTurn at e8
  obtain ⟨b0, b1, em, e8⟩ := mm_bd2s e8
  have em2 : fX5_markBends_6 700 700 x1 x2 x3 (0 : Int32) (0 : Int32) rows cols R C F W be = some (b0, b1) := em
  obtain ⟨c1, -, c3, c4⟩ := mk_6 (m := (rows.toInt * cols.toInt).toNat) hm m32 a2 a3 700 (0 : Int32) (0 : Int32) be b0 b1 em2 (by omega) (by omega) a14
  have eb := (fs_9 e9).2
  unfold fX9_bendsAll at eb
  obtain ⟨d, d1, -, d3, d4⟩ := bd_18 (m := (rows.toInt * cols.toInt).toNat) (R := R) (C := C) (F := F) (W := W) hm (by omega) (by omega) m32 a0 a2 a3 L0 L5 o.1.1 o.1.2 o.2.1 (fun k hk => (l3 k hk).1) (fun k hk => (l3 k hk).2.1) (fun k hk => (l3 k hk).2.2.2) hW 700 (0 : Int32) (0 : Int32) ben eb (by omega) (by omega) k4
  rw [y0, hl] at d3 d4
  rw [y0] at c3 c4
  have hq : b0 = 0 + kc_w (fun k => !decide (be_w (rows.toInt * cols.toInt).toNat cols.toInt.toNat x1 x2 x3 R C F W k = 0)) 0 (64 - 0) := by
    rw [c4, Nat.sub_zero, Nat.sub_zero, kc_m m32 (fun k hk => by rw [be_z hk]; rfl)]
  rw [← hq] at d4
  obtain ⟨q1, q2, q3, q4, q5, q6, -, -, q9, q10, q11, q12, q13⟩ := wl_e (m := (rows.toInt * cols.toInt).toNat) (wr0 := wr) (mo0 := mo) hm m32 L0 L5 H s0 s1 s2 c1 (fun k hk => (c3 k (Nat.zero_le k) hk).trans (d3 k (Nat.zero_le k) (by omega)).symm) (fun k k0 k1 => (d3 k (Nat.zero_le k) k1).trans (be_z k0)) 700 700 (0 : Int32) wr mo 0 0 sk ba at_ en fa op W A wo la st nam e8 d4 (by omega) (by omega) a12 a13 k1 k2 s3 k3 hW hA (Int32.add_zero wr).symm (Int32.add_zero mo).symm
  exact ⟨q1.trans q2.symm, q3, q4, q5, q6, q9, q10, q11, by rw [q12]; exact d1, q13⟩
end
section
/-! Creases torn -/
def tp_w (m c : Nat) (lim : Int32) (W : List Int32) (k : Nat) : Bool := decide ((k / 2 < m ∧ (if k % 2 = 0 then k / 2 % c < c - 1 else k / 2 + c < m)) ∧ ¬ W.getD k 0 < lim)
theorem tp_z {m c : Nat} {lim : Int32} {W : List Int32} {k : Nat} (h : 2 * m ≤ k) : tp_w m c lim W k = false := by
  unfold tp_w
  exact decide_eq_false (fun g => absurd g.1.1 (by omega))
theorem to_4 {lim rows cols : Int32} {W : List Int32} {m : Nat} (hm : (rows * cols).toInt = m) (m32 : m ≤ 32) (c0 : 1 ≤ cols.toInt) (c8 : cols.toInt ≤ 8) : ∀ (n : Nat) (x2 x3 r : Int32), fX5_torn_4 700 n lim x2 x3 rows cols W = some r → 0 ≤ x3.toInt → x3.toInt ≤ 2 * m → r = x2 + kc_w (tp_w m cols.toInt.toNat lim W) x3.toInt.toNat (2 * m - x3.toInt.toNat) := by
  have n1 : (1 : Int32).toInt = 1 := by decide
  have n0 : (0 : Int32).toInt = 0 := by decide
  intro n
  induction n with
  | zero =>
    intro x2 x3 r e
    exact absurd e (by intro h; cases h)
  | succ n ih =>
    intro x2 x3 r e p0 p1
    rw [uf_X5_torn_4] at e
    obtain ⟨fl, ef, e⟩ := mm_bd1s e
    have hfl : rows * cols = fl := sm_i ef
    subst hfl
    generalize hz : (2 : Int32) * (rows * cols) = z at e
    have ez := i_mulLE (c := 2) (by decide) hz (by omega) (by omega)
    by_cases c : z ≤ x3
    · have d := i_le c
      rw [if_pos c] at e
      have hq : 2 * m - x3.toInt.toNat = 0 := by omega
      rw [hq, ← sm_i e]
      exact (Int32.add_zero _).symm
    · have d := i_nle c
      rw [if_neg c] at e
      have e := ck_x (ck_x e)
      have hk2 := i_divE (c := 2) (by decide) (by decide) (rfl : x3 / (2 : Int32) = _) p0
      have hm2 := i_remE (c := 2) (by decide) (by decide) (rfl : mm_rem x3 (2 : Int32) = _) p0
      obtain ⟨k, hk⟩ : ∃ k : Nat, x3.toInt = k := ⟨x3.toInt.toNat, by omega⟩
      have hkn : x3.toInt.toNat = k := by omega
      have hkd : (x3 / (2 : Int32)).toInt = (k / 2 : Nat) := by rw [hk2, hk]; omega
      have hkm : (mm_rem x3 (2 : Int32)).toInt = (k % 2 : Nat) := by rw [hm2, hk]; omega
      obtain ⟨r6, e6, e⟩ := mm_bd1s e
      obtain ⟨h6, h6'⟩ := nb_n hm m32 c0 c8 hkd hkm e6
      obtain ⟨u, hu⟩ : ∃ u : Nat, 2 * m - x3.toInt.toNat = u + 1 := ⟨2 * m - x3.toInt.toNat - 1, by omega⟩
      have J : ∀ x2' : Int32, x2' = x2 + (if tp_w m cols.toInt.toNat lim W k = true then (1 : Int32) else (0 : Int32)) → fX5_torn_40 700 (fX5_torn_4 700 n) lim x2' x3 rows cols W = some r → r = x2 + kc_w (tp_w m cols.toInt.toNat lim W) x3.toInt.toNat (2 * m - x3.toInt.toNat) := by
        intro x2' hx e
        rw [uf_X5_torn_40, nm_eq] at e
        generalize hy : x3 + (1 : Int32) = y at e
        have ey := i_addE hy (by omega) (by omega)
        have q := ih x2' y r e (by omega) (by omega)
        have hu2 : 2 * m - y.toInt.toNat = u := by omega
        have hy2 : y.toInt.toNat = k + 1 := by omega
        rw [q, hu, hu2, hy2, hx, hkn, Int32.add_assoc]
        rfl
      by_cases g : k / 2 < m ∧ (if k % 2 = 0 then k / 2 % cols.toInt.toNat < cols.toInt.toNat - 1 else k / 2 + cols.toInt.toNat < m)
      · have hr6 := h6 g
        rw [if_neg (fun h => absurd (i_lt h) (by omega))] at e
        have e := ck_x e
        by_cases g2 : W.getD k 0 < lim
        · rw [if_pos (show mm_ig W x3 < lim by rw [ge_ig, hkn]; exact g2)] at e
          have hb : tp_w m cols.toInt.toNat lim W k = false := decide_eq_false (fun h => h.2 g2)
          exact J x2 (by rw [hb]; exact (Int32.add_zero _).symm) e
        · rw [if_neg (show ¬ mm_ig W x3 < lim by rw [ge_ig, hkn]; exact g2), nm_eq] at e
          have hb : tp_w m cols.toInt.toNat lim W k = true := decide_eq_true ⟨g, g2⟩
          exact J _ (by rw [hb]; rfl) e
      · have hr6 := h6' g
        rw [if_pos (by rw [hr6]; decide)] at e
        have hb : tp_w m cols.toInt.toNat lim W k = false := decide_eq_false (fun h => g h.1)
        exact J x2 (by rw [hb]; exact (Int32.add_zero _).symm) e
theorem tn_4 {lv rows cols : Int32} {lim wo W : List Int32} {m : Nat} (hm : (rows * cols).toInt = m) (hm2 : rows.toInt * cols.toInt = m) (m1 : 1 ≤ m) (m32 : m ≤ 32) (r0 : 1 ≤ rows.toInt) (c0 : 1 ≤ cols.toInt) (c8 : cols.toInt ≤ 8) (L0 : 0 ≤ lv.toInt) (L5 : lv.toInt ≤ 5) (hW : wk_w lv.toInt.toNat W wo) : ∀ (n : Nat) (x2 x3 r : Int32), fX9_tornNow_4 700 n lv x2 x3 rows cols lim wo = some r → 0 ≤ x3.toInt → x3.toInt ≤ 64 → r = x2 + kc_w (tp_w m cols.toInt.toNat (lim.getD 0 0) W) x3.toInt.toNat (64 - x3.toInt.toNat) := by
  have n1 : (1 : Int32).toInt = 1 := by decide
  have n64 : (64 : Int32).toInt = 64 := by decide
  intro n
  induction n with
  | zero =>
    intro x2 x3 r e
    exact absurd e (by intro h; cases h)
  | succ n ih =>
    intro x2 x3 r e p0 p1
    rw [uf_X9_tornNow_4] at e
    by_cases c : (64 : Int32) ≤ x3
    · have d := i_le c
      rw [if_pos c] at e
      have hq : 64 - x3.toInt.toNat = 0 := by omega
      rw [hq, ← sm_i e]
      exact (Int32.add_zero _).symm
    · have d := i_nle c
      rw [if_neg c] at e
      obtain ⟨k, hk⟩ : ∃ k : Nat, x3.toInt = k := ⟨x3.toInt.toNat, by omega⟩
      have hkn : x3.toInt.toNat = k := by omega
      obtain ⟨r2, e2, e⟩ := mm_bd1s e
      have h2 := ic_e hm hm2 m1 m32 r0 c0 c8 hk (by omega) e2
      obtain ⟨u, hu⟩ : ∃ u : Nat, 64 - x3.toInt.toNat = u + 1 := ⟨64 - x3.toInt.toNat - 1, by omega⟩
      have J : ∀ v : Int32, v = (if tp_w m cols.toInt.toNat (lim.getD 0 0) W k = true then (1 : Int32) else (0 : Int32)) → fX9_tornNow_44 700 (fX9_tornNow_4 700 n) lv x3 v x2 rows cols lim wo = some r → r = x2 + kc_w (tp_w m cols.toInt.toNat (lim.getD 0 0) W) x3.toInt.toNat (64 - x3.toInt.toNat) := by
        intro v hx e
        rw [uf_X9_tornNow_44, nm_eq, nm_eq] at e
        generalize hy : x3 + (1 : Int32) = y at e
        have ey := i_addE hy (by omega) (by omega)
        have q := ih (x2 + v) y r e (by omega) (by omega)
        have hu2 : 64 - y.toInt.toNat = u := by omega
        have hy2 : y.toInt.toNat = k + 1 := by omega
        rw [q, hu, hu2, hy2, hx, hkn, Int32.add_assoc]
        rfl
      by_cases g : k / 2 < m ∧ (if k % 2 = 0 then k / 2 % cols.toInt.toNat < cols.toInt.toNat - 1 else k / 2 + cols.toInt.toNat < m)
      · rw [h2, decide_eq_true g, if_neg (by decide)] at e
        have e := ck_x (ck_x e)
        have hw : mm_ig wo (((64 : Int32) * lv) + x3) = W.getD k 0 := by
          rw [ge_ig, iy_e L0 L5 p0 (by omega), hkn]
          exact hW k (by omega)
        rw [hw] at e
        by_cases g2 : W.getD k 0 < lim.getD 0 0
        · rw [if_pos (show W.getD k 0 < mm_ig lim (0 : Int32) from g2), uf_X9_tornNow_43] at e
          have hb : tp_w m cols.toInt.toNat (lim.getD 0 0) W k = false := decide_eq_false (fun h => h.2 g2)
          exact J 0 (by rw [hb]; rfl) e
        · rw [if_neg (show ¬ W.getD k 0 < mm_ig lim (0 : Int32) from g2)] at e
          have hb : tp_w m cols.toInt.toNat (lim.getD 0 0) W k = true := decide_eq_true ⟨g, g2⟩
          exact J 1 (by rw [hb]; rfl) e
      · rw [h2, decide_eq_false g, if_pos rfl, uf_X9_tornNow_43] at e
        have hb : tp_w m cols.toInt.toNat (lim.getD 0 0) W k = false := decide_eq_false (fun h => g h.1)
        exact J 0 (by rw [hb]; rfl) e
/-- as many creases torn -/
theorem tr_n {lv lm rows cols r r' : Int32} {lim wo W : List Int32} (a0 : 1 ≤ rows.toInt) (a1 : rows.toInt ≤ 4) (a2 : 1 ≤ cols.toInt) (a3 : cols.toInt ≤ 8) (L0 : 0 ≤ lv.toInt) (L5 : lv.toInt ≤ 5) (hl : lim.getD 0 0 = lm) (hW : wk_w lv.toInt.toNat W wo) (e8 : fX5_torn 700 lm rows cols W = some r) (e9 : fX9_tornNow 700 lv rows cols lim wo = some r') : r' = r := by
  have y0 : (0 : Int32).toInt.toNat = 0 := by decide
  have n0 : (0 : Int32).toInt = 0 := by decide
  have hf := i_fl a0 a1 a2 a3
  have m32 : (rows.toInt * cols.toInt).toNat ≤ 32 := by omega
  unfold fX5_torn at e8
  unfold fX9_tornNow at e9
  have q8 := to_4 (m := (rows.toInt * cols.toInt).toNat) (by omega) m32 a2 a3 700 (0 : Int32) (0 : Int32) r e8 (by omega) (by omega)
  have q9 := tn_4 (m := (rows.toInt * cols.toInt).toNat) (by omega) (by omega) (by omega) m32 a0 a2 a3 L0 L5 hW 700 (0 : Int32) (0 : Int32) r' e9 (by omega) (by omega)
  rw [y0, Nat.sub_zero] at q8 q9
  rw [q8, q9, hl, kc_m m32 (fun k hk => tp_z hk)]
end
section
/-! Creases and the law: what class and reference have alike -/
def rl_lw (v_wearing_stepCount : Int32) (v_wearing_steps : List Int32) (m_textMany : Int32) (m_text : List Int32) : Prop := lr_w v_wearing_stepCount m_textMany v_wearing_steps m_text
def rl_cr (v_now_wrong : Int32) (v_now_worn : List Int32) (v_now_last : List Int32) (v_hasImage : Bool) (v_kept_wrong : Int32) (v_kept_worn : List Int32) (v_kept_last : List Int32) (m_wronged : Int32) (m_imageWronged : Int32) (m_worn : List Int32) (m_lastBend : List Int32) : Prop := m_wronged = v_now_wrong ∧ wk_w 0 v_now_worn m_worn ∧ wk_w 0 v_now_last m_lastBend ∧ (v_hasImage = true → m_imageWronged = v_kept_wrong ∧ wk_w 5 v_kept_worn m_worn ∧ wk_w 5 v_kept_last m_lastBend)
def wk_b (lv : Nat) (W wo : List Int32) : Bool := (List.range 64).all (fun k => decide (wo.getD (64 * lv + k) 0 = W.getD k 0))
theorem wk_of {lv : Nat} {W wo : List Int32} (h : wk_b lv W wo = true) : wk_w lv W wo := fun k hk => of_decide_eq_true (List.all_eq_true.mp h k (List.mem_range.mpr hk))
theorem nw_cr : rl_cr 0 (mm_zs 64) (mm_zs 64) false 0 (mm_zs 64) (mm_zs 64) 0 0 (mm_zs 384) (mm_zs 384) := ⟨rfl, wk_of (by decide +kernel), wk_of (by decide +kernel), fun h => absurd h (by decide)⟩
theorem wk_fr {lv : Nat} {W wo wo' : List Int32} (h : wk_w lv W wo) (hl : lv = 0 ∨ lv = 5) (l : wo.length = 384) (f : fr wo wo' 64 320) : wk_w lv W wo' := fun k hk => (fr_n f (by omega) (by omega) (by omega)).trans (h k hk)
theorem cr_fr {a : Int32} {W A : List Int32} {g : Bool} {b : Int32} {K J : List Int32} {c d : Int32} {wo la wo' la' : List Int32} (h : rl_cr a W A g b K J c d wo la) (l1 : wo.length = 384) (l2 : la.length = 384) (f1 : fr wo wo' 64 320) (f2 : fr la la' 64 320) : rl_cr a W A g b K J c d wo' la' := ⟨h.1, wk_fr h.2.1 (Or.inl rfl) l1 f1, wk_fr h.2.2.1 (Or.inl rfl) l2 f2, fun e => ⟨(h.2.2.2 e).1, wk_fr (h.2.2.2 e).2.1 (Or.inr rfl) l1 f1, wk_fr (h.2.2.2 e).2.2 (Or.inr rfl) l2 f2⟩⟩
theorem hb_0 {n : Int32} {tape8 text : List Int32} (hx : ∀ k : Nat, (k : Int) < n.toInt → text.getD k 0 = tape8.getD k 0) : ∀ tape : List Int32, hb_w (fun k => tape8.getD k 0) 0 n tape text := by
  intro tape p r p0 e
  unfold fX9_byteAt at e
  unfold nb_9
  by_cases c : n ≤ p
  · rw [if_pos c] at e ⊢
    exact (sm_i e).symm
  · have d := i_nle c
    rw [if_neg c, if_pos (by decide), Int32.zero_add] at e
    rw [if_neg c]
    have q := sm_i (ck_x e)
    rw [← q, ge_ig]
    exact hx _ (by omega)
set_option maxHeartbeats 4000000 in
set_option maxRecDepth 20000 in
theorem rs_law_lw {v_wearing_size : Int32} {v_wearing_stepCount : Int32} {v_wearing_draftCount : Int32} {v_wearing_place : Int32} {v_wearing_fault : Int32} {v_wearing_tape : List Int32} {v_wearing_steps : List Int32} {v_wearing_draft : List Int32} {v_wearing_stack : List Int32} {m_tapeMany : Int32} {m_textMany : Int32} {m_base : Int32} {m_at : Int32} {m_ends : Int32} {m_fault : Int32} {m_opened : Int32} {m_tape : List Int32} {m_text : List Int32} {m_names : List Int32} {m_bends : List Int32} {m_high : List Int32} {m_to : List Int32} {m_pileSize : List Int32} (g8_0 : gi_la v_wearing_size v_wearing_stepCount v_wearing_draftCount v_wearing_tape v_wearing_steps v_wearing_draft v_wearing_stack) (g9_0 : gm_tx m_tapeMany m_textMany m_tape m_text m_names m_bends m_high m_to m_pileSize) (hr_0 : rl_tp v_wearing_size v_wearing_tape m_tapeMany m_tape) (hr_1 : rl_lw v_wearing_stepCount v_wearing_steps m_textMany m_text) : ∃ (r : Int32) (p_wearing_size : Int32) (p_wearing_stepCount : Int32) (p_wearing_draftCount : Int32) (p_wearing_place : Int32) (p_wearing_fault : Int32) (p_wearing_steps : List Int32) (p_wearing_draft : List Int32) (q_tapeMany : Int32) (q_textMany : Int32) (q_base : Int32) (q_at : Int32) (q_ends : Int32) (q_fault : Int32) (q_opened : Int32) (q_text : List Int32), fX8_law 700 v_wearing_size v_wearing_stepCount v_wearing_draftCount v_wearing_place v_wearing_fault v_wearing_tape v_wearing_steps v_wearing_draft = some (r, p_wearing_size, p_wearing_stepCount, p_wearing_draftCount, p_wearing_place, p_wearing_fault, p_wearing_steps, p_wearing_draft) ∧ fX9_law 700 m_tapeMany m_textMany m_base m_at m_ends m_fault m_opened m_tape m_text m_names = some (r, q_tapeMany, q_textMany, q_base, q_at, q_ends, q_fault, q_opened, q_text) ∧ gi_la p_wearing_size p_wearing_stepCount p_wearing_draftCount v_wearing_tape p_wearing_steps p_wearing_draft v_wearing_stack ∧ gm_tx q_tapeMany q_textMany m_tape q_text m_names m_bends m_high m_to m_pileSize ∧ rl_tp p_wearing_size v_wearing_tape q_tapeMany m_tape ∧ rl_lw p_wearing_stepCount p_wearing_steps q_textMany q_text := by
  obtain ⟨⟨r8, p_wearing_size, p_wearing_stepCount, p_wearing_draftCount, p_wearing_place, p_wearing_fault, p_wearing_steps, p_wearing_draft⟩, e8, -⟩ := st8_law (v_wearing_place := v_wearing_place) (v_wearing_fault := v_wearing_fault) g8_0
  obtain ⟨⟨r9, q_tapeMany, q_textMany, q_base, q_at, q_ends, q_fault, q_opened, q_text⟩, e9, -⟩ := st9_law (v_base := m_base) (v_at := m_at) (v_ends := m_ends) (v_fault := m_fault) (v_opened := m_opened) g9_0
  have k8 := wp_get (st8_law g8_0) e8
  have k9 := wp_get (st9_law g9_0) e9
  obtain ⟨a0, a1, -, -, -, -, -, a7, a8, -⟩ := id g8_0
  obtain ⟨-, -, -, -, -, c5, -⟩ := id g9_0
  obtain ⟨rfl, rfl⟩ := hr_0
  have n0 : (0 : Int32).toInt = 0 := by decide
  have X : r9 = r8 ∧ q_tapeMany = p_wearing_size ∧ rl_lw p_wearing_stepCount p_wearing_steps q_textMany q_text := by
    have f8 := e8
    have f9 := e9
    unfold fX8_law at f8
    unfold fX9_law at f9
    obtain ⟨u0, u1, u2, u3, u4, u5, u6, u7, et, f8⟩ := mm_bd8s f8
    obtain ⟨v0, v1, v2, v3, v4, v5, ew, f9⟩ := mm_bd6s f9
    obtain ⟨q1, q2, q3, q4⟩ := lw_e hb_t a0 a1 a7 a8 et ew
    rcases q4 with ⟨hf, hg⟩ | ⟨hf, -⟩
    · rw [if_pos (Int32.le_iff_toInt_le.mpr (by rw [q2]; omega))] at f8
      rw [if_neg (fun h => absurd (i_lt h) (by rw [q1]; omega))] at f9
      apply mm_sub8 f8
      apply mm_sub9 f9
      refine ⟨by rw [q1, q2], q3.symm, ?_⟩
      rw [hg.1, hg.2]
      exact hr_1
    · rw [if_neg (by rw [q2, hf]; decide)] at f8
      rw [if_pos (by rw [q1, hf]; decide)] at f9
      obtain ⟨w1, w2, w3, -, -, w6⟩ := lx_37 a1 700 _ _ _ _ _ _ _ _ _ _ _ f9 (by decide) c5
      rw [hf, ← w3] at et
      apply mm_sub8 f8
      refine ⟨w1, by rw [w2, q3], Or.inr ⟨by rw [w3]; exact a0, by rw [w3]; exact a1, _, _, _, _, _, _, _, _, _, _, _, _, hb_0 (fun k hk => w6 k (Nat.zero_le k) (by rw [← w3]; exact hk)), a7, a8, et⟩⟩
  obtain ⟨er, es, X3⟩ := X
  subst er
  subst es
  exact ⟨_, _, _, _, _, _, _, _, _, _, _, _, _, _, _, _, e8, e9, k8, k9, ⟨rfl, rfl⟩, X3⟩
set_option maxHeartbeats 4000000 in
set_option maxRecDepth 20000 in
theorem rs_sheet_cr {x1 : Int32} {v_now_rows : Int32} {v_now_cols : Int32} {v_now_high : Int32} {v_now_wide : Int32} {v_now_folds : Int32} {v_now_wrong : Int32} {v_now_more : Int32} {v_now_rowOf : List Int32} {v_now_colOf : List Int32} {v_now_below : List Int32} {v_now_face : List Int32} {v_now_worn : List Int32} {v_now_last : List Int32} {v_now_bend : List Int32} {v_now_tall : List Int32} {v_hasImage : Bool} {v_kept_rows : Int32} {v_kept_cols : Int32} {v_kept_high : Int32} {v_kept_wide : Int32} {v_kept_folds : Int32} {v_kept_rowOf : List Int32} {v_kept_colOf : List Int32} {v_kept_below : List Int32} {v_kept_face : List Int32} {v_kept_wrong : Int32} {v_kept_worn : List Int32} {v_kept_last : List Int32} {m_rowsOf : Int32} {m_columnsOf : Int32} {m_folded : Int32} {m_wronged : Int32} {m_shapeRows : List Int32} {m_shapeColumns : List Int32} {m_row : List Int32} {m_column : List Int32} {m_below : List Int32} {m_face : List Int32} {m_worn : List Int32} {m_lastBend : List Int32} {m_isKept : Bool} {m_imageRows : Int32} {m_imageColumns : Int32} {m_imageFolded : Int32} {m_imageWronged : Int32} (g8_0 : gi_sh v_now_rows v_now_cols v_now_high v_now_wide v_now_rowOf v_now_colOf v_now_below v_now_face v_now_worn v_now_last v_now_bend v_now_tall) (g9_0 : gm_sh m_rowsOf m_columnsOf m_isKept m_imageRows m_imageColumns m_shapeRows m_shapeColumns m_row m_column m_below m_face m_worn m_lastBend) (hr_0 : rl_ge v_now_rows v_now_cols v_now_high v_now_wide v_now_folds v_now_rowOf v_now_colOf v_now_below v_now_face v_hasImage v_kept_rows v_kept_cols v_kept_high v_kept_wide v_kept_folds v_kept_rowOf v_kept_colOf v_kept_below v_kept_face m_rowsOf m_columnsOf m_folded m_isKept m_imageRows m_imageColumns m_imageFolded m_shapeRows m_shapeColumns m_row m_column m_below m_face) (hr_1 : rl_cr v_now_wrong v_now_worn v_now_last v_hasImage v_kept_wrong v_kept_worn v_kept_last m_wronged m_imageWronged m_worn m_lastBend) : ∃ (r8 : Int32) (p_now_rows : Int32) (p_now_cols : Int32) (p_now_high : Int32) (p_now_wide : Int32) (p_now_folds : Int32) (p_now_wrong : Int32) (p_now_more : Int32) (p_now_rowOf : List Int32) (p_now_colOf : List Int32) (p_now_below : List Int32) (p_now_face : List Int32) (p_now_worn : List Int32) (p_now_last : List Int32) (r9 : Int32) (q_rowsOf : Int32) (q_columnsOf : Int32) (q_folded : Int32) (q_wronged : Int32) (q_shapeRows : List Int32) (q_shapeColumns : List Int32) (q_row : List Int32) (q_column : List Int32) (q_below : List Int32) (q_face : List Int32) (q_worn : List Int32) (q_lastBend : List Int32), fX8_sheet 700 x1 v_now_rows v_now_cols v_now_high v_now_wide v_now_folds v_now_wrong v_now_more v_now_rowOf v_now_colOf v_now_below v_now_face v_now_worn v_now_last = some (r8, p_now_rows, p_now_cols, p_now_high, p_now_wide, p_now_folds, p_now_wrong, p_now_more, p_now_rowOf, p_now_colOf, p_now_below, p_now_face, p_now_worn, p_now_last) ∧ fX9_sheet 700 x1 m_rowsOf m_columnsOf m_folded m_wronged m_shapeRows m_shapeColumns m_row m_column m_below m_face m_worn m_lastBend = some (r9, q_rowsOf, q_columnsOf, q_folded, q_wronged, q_shapeRows, q_shapeColumns, q_row, q_column, q_below, q_face, q_worn, q_lastBend) ∧ gi_sh p_now_rows p_now_cols p_now_high p_now_wide p_now_rowOf p_now_colOf p_now_below p_now_face p_now_worn p_now_last v_now_bend v_now_tall ∧ gm_sh q_rowsOf q_columnsOf m_isKept m_imageRows m_imageColumns q_shapeRows q_shapeColumns q_row q_column q_below q_face q_worn q_lastBend ∧ rl_ge p_now_rows p_now_cols p_now_high p_now_wide p_now_folds p_now_rowOf p_now_colOf p_now_below p_now_face v_hasImage v_kept_rows v_kept_cols v_kept_high v_kept_wide v_kept_folds v_kept_rowOf v_kept_colOf v_kept_below v_kept_face q_rowsOf q_columnsOf q_folded m_isKept m_imageRows m_imageColumns m_imageFolded q_shapeRows q_shapeColumns q_row q_column q_below q_face ∧ rl_cr p_now_wrong p_now_worn p_now_last v_hasImage v_kept_wrong v_kept_worn v_kept_last q_wronged m_imageWronged q_worn q_lastBend := by
  obtain ⟨⟨r8, p_now_rows, p_now_cols, p_now_high, p_now_wide, p_now_folds, p_now_wrong, p_now_more, p_now_rowOf, p_now_colOf, p_now_below, p_now_face, p_now_worn, p_now_last⟩, e8, -⟩ := st8_sheet (x1 := x1) (v_now_folds := v_now_folds) (v_now_wrong := v_now_wrong) (v_now_more := v_now_more) g8_0
  obtain ⟨⟨r9, q_rowsOf, q_columnsOf, q_folded, q_wronged, q_shapeRows, q_shapeColumns, q_row, q_column, q_below, q_face, q_worn, q_lastBend⟩, e9, -⟩ := st9_sheet (x1 := x1) (v_folded := m_folded) (v_wronged := m_wronged) g9_0
  have k8 := wp_get (st8_sheet g8_0) e8
  have k9 := wp_get (st9_sheet g9_0) e9
  obtain ⟨a0, a1, a2, a3, a4, a5, a6, a7, a8, a9, a10, a11, a12, a13, a14, a15, a16, a17⟩ := id g8_0
  obtain ⟨z0, z1, z2, z3, z4, z5, z6, z7, z8, z9, z10, z11, z12, z13⟩ := id g9_0
  have n0 : (0 : Int32).toInt = 0 := by decide
  have n5 : (5 : Int32).toInt = 5 := by decide
  have y0 : (0 : Int32).toInt.toNat = 0 := by decide
  have y5 : (5 : Int32).toInt.toNat = 5 := by decide
  obtain ⟨b1, b2, b3, b4, b5, b6⟩ := hr_0
  have R : rl_ge p_now_rows p_now_cols p_now_high p_now_wide p_now_folds p_now_rowOf p_now_colOf p_now_below p_now_face v_hasImage v_kept_rows v_kept_cols v_kept_high v_kept_wide v_kept_folds v_kept_rowOf v_kept_colOf v_kept_below v_kept_face q_rowsOf q_columnsOf q_folded m_isKept m_imageRows m_imageColumns m_imageFolded q_shapeRows q_shapeColumns q_row q_column q_below q_face := by
    rcases st_8 a8 a9 a10 a11 a12 a13 e8 with ⟨o8, h8⟩ | ⟨o8, h8⟩
    · rcases st_9 z6 z7 z8 z9 z10 z11 e9 with ⟨o9, h9⟩ | ⟨o9, h9⟩
      · obtain ⟨c1, c2, c3, c4, c5, c6, c7, c8, c9, c10, c11, c12, c13, c14⟩ := h8
        obtain ⟨d1, d2, d3, d4, d5, d6, d7, d8, d9, d10, d11, d12, d13⟩ := h9
        subst c2 c3 c4 c5 c6 c9 c10 c11 c12 d2 d3 d4 d6 d7 d8 d9 d10 d11
        exact ⟨b1, b2, b3, b4, b5, b6⟩
      · exact absurd o9 o8
    · rcases st_9 z6 z7 z8 z9 z10 z11 e9 with ⟨o9, h9⟩ | ⟨o9, h9⟩
      · exact absurd o8 o9
      · obtain ⟨c1, c2, c3, c4, c5, c6, c7, c8, c9, c10⟩ := h8
        obtain ⟨d1, d2, d3, d4, d5, d6, d7, d8, d9, d10, d11⟩ := h9
        rw [c2, c3, c4, c5, c6, d2, d3, d4, d6, d7]
        refine ⟨rfl, rfl, rfl, b4, ⟨?_, ?_, fl_x c9 d9⟩, fun hk => ?_⟩
        · rw [ge_is _ _ _ _ (by omega), y0, if_pos rfl]
        · rw [ge_is _ _ _ _ (by omega), y0, if_pos rfl]
        · obtain ⟨f1, f2, f3, f4⟩ := b6 hk
          subst f1 f2
          have hk2 : ¬ (m_isKept = false) := by rw [b4, hk]; decide
          obtain ⟨u0, u1, u2, u3, -⟩ := z13 hk2
          refine ⟨rfl, rfl, f3, lg_t f4 (i_fl u0 u1 u2 u3).2.2 ?_ ?_ (fun j j0 j1 => d8 j (by omega) (by omega))⟩
          · rw [ge_is _ _ _ _ (by omega), y0, if_neg (by decide)]
          · rw [ge_is _ _ _ _ (by omega), y0, if_neg (by decide)]
  obtain ⟨s1, s2, s3, s4⟩ := hr_1
  have X : rl_cr p_now_wrong p_now_worn p_now_last v_hasImage v_kept_wrong v_kept_worn v_kept_last q_wronged m_imageWronged q_worn q_lastBend := by
    rcases st_8 a8 a9 a10 a11 a12 a13 e8 with ⟨o8, h8⟩ | ⟨o8, h8⟩
    · rcases st_9 z6 z7 z8 z9 z10 z11 e9 with ⟨o9, h9⟩ | ⟨o9, h9⟩
      · obtain ⟨-, -, -, -, -, -, c7, -, -, -, -, -, c13, c14⟩ := h8
        obtain ⟨-, -, -, -, d5, -, -, -, -, -, -, d12, d13⟩ := h9
        rw [c7, c13, c14, d5, d12, d13]
        exact ⟨s1, s2, s3, s4⟩
      · exact absurd o9 o8
    · rcases st_9 z6 z7 z8 z9 z10 z11 e9 with ⟨o9, h9⟩ | ⟨o9, h9⟩
      · exact absurd o8 o9
      · obtain ⟨-, -, -, -, -, -, c7, -, -, c10⟩ := h8
        obtain ⟨-, -, -, -, d5, -, -, -, -, d10, d11⟩ := h9
        refine ⟨d5.trans c7.symm, fun k hk => ?_, fun k hk => ?_, fun e => ⟨(s4 e).1, fun k hk => (d11 _ (by omega) (by omega)).1.trans ((s4 e).2.1 k hk), fun k hk => (d11 _ (by omega) (by omega)).2.trans ((s4 e).2.2 k hk)⟩⟩
        · have u := (c10 k hk).1
          have w := (d10 k hk).1
          rw [Nat.zero_add] at u w
          rw [Nat.mul_zero, Nat.zero_add, u, w]
        · have u := (c10 k hk).2
          have w := (d10 k hk).2
          rw [Nat.zero_add] at u w
          rw [Nat.mul_zero, Nat.zero_add, u, w]
  exact ⟨_, _, _, _, _, _, _, _, _, _, _, _, _, _, _, _, _, _, _, _, _, _, _, _, _, _, _, e8, e9, k8, k9, R, X⟩
theorem fc_8 {x1 x2 rows cols hg wd folds wrong more : Int32} {R C B F worn last bend T : List Int32} {sc sk : Int32} {stp st : List Int32} {lim : Int32} {r h' w' fo' wr' mo' : Int32} {R' C' B' F' wo' la' be' T' : List Int32} {sk' : Int32} {st' : List Int32} (e : fX8_fold 700 x1 x2 rows cols hg wd folds wrong more R C B F worn last bend T sc sk stp st lim = some (r, h', w', fo', wr', mo', R', C', B', F', wo', la', be', T', sk', st')) : (¬ ok_w x1 x2 hg wd ∧ r = (if 0 ≤ x2.toInt ∧ x2.toInt ≤ 7 then (-2 : Int32) else (-1 : Int32)) ∧ wr' = wrong ∧ wo' = worn ∧ la' = last) ∨ (ok_w x1 x2 hg wd ∧ fX5_bendAndTurn 700 x1 x2 lim rows cols hg wd folds wrong more R C B F worn last bend T sc sk stp st = some (r, h', w', fo', wr', mo', R', C', B', F', wo', la', be', T', sk', st')) := by
  unfold fX8_fold at e
  rw [wa_e, bs_1] at e
  by_cases c : 0 ≤ x2.toInt ∧ x2.toInt ≤ 7
  · rw [if_pos c]
    rw [decide_eq_true c, if_neg (by decide), hl_e, bs_1] at e
    by_cases d : 1 ≤ x1.toInt ∧ x1.toInt < (if (4 : Int32) ≤ x2 then hg else wd).toInt
    · rw [decide_eq_true d, if_neg (by decide)] at e
      obtain ⟨a0, a1, a2, a3, a4, a5, a6, a7, a8, a9, a10, a11, a12, a13, a14, a15, eb, e⟩ := mm_bd16s e
      refine Or.inr ⟨⟨c, d⟩, ?_⟩
      rw [eb]
      exact e
    · rw [decide_eq_false d, if_pos rfl] at e
      apply mm_sub16 e
      exact Or.inl ⟨fun h => d h.2, rfl, rfl, rfl, rfl⟩
  · rw [if_neg c]
    rw [decide_eq_false c, if_pos rfl] at e
    apply mm_sub16 e
    exact Or.inl ⟨fun h => c h.1, rfl, rfl, rfl, rfl⟩
theorem fc_9 {x1 x2 ro co fd wr tm ba at_ en fa op bm bw mw hg wd : Int32} {lim sR sC row col bel fac wo la tape text nam ben hi to PS : List Int32} {r fd' wr' ba' at' en' fa' op' bm' bw' mw' : Int32} {sR' sC' row' col' bel' fac' wo' la' nam' ben' hi' to' PS' : List Int32} (k8 : sR.length = 6) (k9 : sC.length = 6) (g1 : mm_ig sR (0 : Int32) = hg) (g2 : mm_ig sC (0 : Int32) = wd) (hh : 1 ≤ hg.toInt ∧ hg.toInt ≤ 4) (hw : 1 ≤ wd.toInt ∧ wd.toInt ≤ 8) (e : fX9_fold 700 x1 x2 ro co fd wr tm ba at_ en fa op bm bw mw lim sR sC row col bel fac wo la tape text nam ben hi to PS = some (r, fd', wr', ba', at', en', fa', op', bm', bw', mw', sR', sC', row', col', bel', fac', wo', la', nam', ben', hi', to', PS')) : (¬ ok_w x1 x2 hg wd ∧ r = (if 0 ≤ x2.toInt ∧ x2.toInt ≤ 7 then (-2 : Int32) else (-1 : Int32)) ∧ wr' = wr ∧ wo' = wo ∧ la' = la) ∨ (ok_w x1 x2 hg wd ∧ r = bm' ∧ wr' = wr + bw' ∧ fX9_foldsOn 700 (0 : Int32) x1 x2 ro co tm ba at_ en fa op bm bw mw lim sR sC row col bel fac wo la tape text nam ben hi to PS = some (ba', at', en', fa', op', bm', bw', mw', sR', sC', row', col', bel', fac', wo', la', nam', ben', hi', to', PS')) := by
  have m0 : (0 : Int64).toInt = 0 := by decide
  have m7 : (7 : Int64).toInt = 7 := by decide
  unfold fX9_fold at e
  rw [wn_x, bs_1, i_64, m0, m7] at e
  by_cases c : 0 ≤ x2.toInt ∧ x2.toInt ≤ 7
  · rw [if_pos c]
    rw [decide_eq_true c, if_neg (by decide), il_e k8 k9 (by decide) (by decide) g1 g2 hh hw, bs_1] at e
    by_cases d : 1 ≤ x1.toInt ∧ x1.toInt < (if (4 : Int32) ≤ x2 then hg else wd).toInt
    · rw [decide_eq_true d, if_neg (by decide)] at e
      obtain ⟨a0, a1, a2, a3, a4, a5, a6, a7, a8, a9, a10, a11, a12, a13, a14, a15, a16, a17, a18, a19, a20, eb, e⟩ := mm_bd21s e
      rw [nm_eq, nm_eq] at e
      apply mm_sub24 e
      exact Or.inr ⟨⟨c, d⟩, rfl, rfl, eb⟩
    · rw [decide_eq_false d, if_pos rfl] at e
      apply mm_sub24 e
      exact Or.inl ⟨fun h => d h.2, rfl, rfl, rfl, rfl⟩
  · rw [if_neg c]
    rw [decide_eq_false c, if_pos rfl] at e
    apply mm_sub24 e
    exact Or.inl ⟨fun h => c h.1, rfl, rfl, rfl, rfl⟩
set_option maxHeartbeats 4000000 in
set_option maxRecDepth 20000 in
theorem rs_fold_cr {x1 : Int32} {x2 : Int32} {v_now_rows : Int32} {v_now_cols : Int32} {v_now_high : Int32} {v_now_wide : Int32} {v_now_folds : Int32} {v_now_wrong : Int32} {v_now_more : Int32} {v_now_rowOf : List Int32} {v_now_colOf : List Int32} {v_now_below : List Int32} {v_now_face : List Int32} {v_now_worn : List Int32} {v_now_last : List Int32} {v_now_bend : List Int32} {v_now_tall : List Int32} {v_wearing_stepCount : Int32} {v_wearing_stacked : Int32} {v_wearing_steps : List Int32} {v_wearing_stack : List Int32} {v_changes_value : Int32} {v_wearing_size : Int32} {v_wearing_draftCount : Int32} {v_wearing_tape : List Int32} {v_wearing_draft : List Int32} {v_hasImage : Bool} {v_kept_rows : Int32} {v_kept_cols : Int32} {v_kept_high : Int32} {v_kept_wide : Int32} {v_kept_folds : Int32} {v_kept_rowOf : List Int32} {v_kept_colOf : List Int32} {v_kept_below : List Int32} {v_kept_face : List Int32} {v_changes_done : Int32} {v_changes_size : Int32} {v_changes_before : List Int32} {v_changes_after : List Int32} {v_kept_wrong : Int32} {v_kept_worn : List Int32} {v_kept_last : List Int32} {m_rowsOf : Int32} {m_columnsOf : Int32} {m_folded : Int32} {m_wronged : Int32} {m_textMany : Int32} {m_base : Int32} {m_at : Int32} {m_ends : Int32} {m_fault : Int32} {m_opened : Int32} {m_bentMany : Int32} {m_bentWrong : Int32} {m_moreWorn : Int32} {m_limit : List Int32} {m_shapeRows : List Int32} {m_shapeColumns : List Int32} {m_row : List Int32} {m_column : List Int32} {m_below : List Int32} {m_face : List Int32} {m_worn : List Int32} {m_lastBend : List Int32} {m_tape : List Int32} {m_text : List Int32} {m_names : List Int32} {m_bends : List Int32} {m_high : List Int32} {m_to : List Int32} {m_pileSize : List Int32} {m_keptMany : Int32} {m_done : Int32} {m_changeWas : List Int32} {m_changeIs : List Int32} {m_isKept : Bool} {m_imageRows : Int32} {m_imageColumns : Int32} {m_tapeMany : Int32} {m_imageFolded : Int32} {m_imageWronged : Int32} (g8_0 : gi_sh v_now_rows v_now_cols v_now_high v_now_wide v_now_rowOf v_now_colOf v_now_below v_now_face v_now_worn v_now_last v_now_bend v_now_tall) (g8_1 : gi_la v_wearing_size v_wearing_stepCount v_wearing_draftCount v_wearing_tape v_wearing_steps v_wearing_draft v_wearing_stack) (g9_0 : gm_ch m_keptMany m_done m_limit m_changeWas m_changeIs) (g9_1 : gm_sh m_rowsOf m_columnsOf m_isKept m_imageRows m_imageColumns m_shapeRows m_shapeColumns m_row m_column m_below m_face m_worn m_lastBend) (g9_2 : gm_tx m_tapeMany m_textMany m_tape m_text m_names m_bends m_high m_to m_pileSize) (hr_0 : rl_ge v_now_rows v_now_cols v_now_high v_now_wide v_now_folds v_now_rowOf v_now_colOf v_now_below v_now_face v_hasImage v_kept_rows v_kept_cols v_kept_high v_kept_wide v_kept_folds v_kept_rowOf v_kept_colOf v_kept_below v_kept_face m_rowsOf m_columnsOf m_folded m_isKept m_imageRows m_imageColumns m_imageFolded m_shapeRows m_shapeColumns m_row m_column m_below m_face) (hr_1 : rl_ch v_changes_value v_changes_done v_changes_size v_changes_before v_changes_after m_keptMany m_done m_limit m_changeWas m_changeIs) (hr_2 : rl_lw v_wearing_stepCount v_wearing_steps m_textMany m_text) (hr_3 : rl_cr v_now_wrong v_now_worn v_now_last v_hasImage v_kept_wrong v_kept_worn v_kept_last m_wronged m_imageWronged m_worn m_lastBend) : ∃ (r : Int32) (p_now_high : Int32) (p_now_wide : Int32) (p_now_folds : Int32) (p_now_wrong : Int32) (p_now_more : Int32) (p_now_rowOf : List Int32) (p_now_colOf : List Int32) (p_now_below : List Int32) (p_now_face : List Int32) (p_now_worn : List Int32) (p_now_last : List Int32) (p_now_bend : List Int32) (p_now_tall : List Int32) (p_wearing_stacked : Int32) (p_wearing_stack : List Int32) (q_folded : Int32) (q_wronged : Int32) (q_base : Int32) (q_at : Int32) (q_ends : Int32) (q_fault : Int32) (q_opened : Int32) (q_bentMany : Int32) (q_bentWrong : Int32) (q_moreWorn : Int32) (q_shapeRows : List Int32) (q_shapeColumns : List Int32) (q_row : List Int32) (q_column : List Int32) (q_below : List Int32) (q_face : List Int32) (q_worn : List Int32) (q_lastBend : List Int32) (q_names : List Int32) (q_bends : List Int32) (q_high : List Int32) (q_to : List Int32) (q_pileSize : List Int32), fX8_fold 700 x1 x2 v_now_rows v_now_cols v_now_high v_now_wide v_now_folds v_now_wrong v_now_more v_now_rowOf v_now_colOf v_now_below v_now_face v_now_worn v_now_last v_now_bend v_now_tall v_wearing_stepCount v_wearing_stacked v_wearing_steps v_wearing_stack v_changes_value = some (r, p_now_high, p_now_wide, p_now_folds, p_now_wrong, p_now_more, p_now_rowOf, p_now_colOf, p_now_below, p_now_face, p_now_worn, p_now_last, p_now_bend, p_now_tall, p_wearing_stacked, p_wearing_stack) ∧ fX9_fold 700 x1 x2 m_rowsOf m_columnsOf m_folded m_wronged m_textMany m_base m_at m_ends m_fault m_opened m_bentMany m_bentWrong m_moreWorn m_limit m_shapeRows m_shapeColumns m_row m_column m_below m_face m_worn m_lastBend m_tape m_text m_names m_bends m_high m_to m_pileSize = some (r, q_folded, q_wronged, q_base, q_at, q_ends, q_fault, q_opened, q_bentMany, q_bentWrong, q_moreWorn, q_shapeRows, q_shapeColumns, q_row, q_column, q_below, q_face, q_worn, q_lastBend, q_names, q_bends, q_high, q_to, q_pileSize) ∧ gi_sh v_now_rows v_now_cols p_now_high p_now_wide p_now_rowOf p_now_colOf p_now_below p_now_face p_now_worn p_now_last p_now_bend p_now_tall ∧ gi_la v_wearing_size v_wearing_stepCount v_wearing_draftCount v_wearing_tape v_wearing_steps v_wearing_draft p_wearing_stack ∧ gm_sh m_rowsOf m_columnsOf m_isKept m_imageRows m_imageColumns q_shapeRows q_shapeColumns q_row q_column q_below q_face q_worn q_lastBend ∧ gm_tx m_tapeMany m_textMany m_tape m_text q_names q_bends q_high q_to q_pileSize ∧ rl_ge v_now_rows v_now_cols p_now_high p_now_wide p_now_folds p_now_rowOf p_now_colOf p_now_below p_now_face v_hasImage v_kept_rows v_kept_cols v_kept_high v_kept_wide v_kept_folds v_kept_rowOf v_kept_colOf v_kept_below v_kept_face m_rowsOf m_columnsOf q_folded m_isKept m_imageRows m_imageColumns m_imageFolded q_shapeRows q_shapeColumns q_row q_column q_below q_face ∧ rl_ch v_changes_value v_changes_done v_changes_size v_changes_before v_changes_after m_keptMany m_done m_limit m_changeWas m_changeIs ∧ rl_lw v_wearing_stepCount v_wearing_steps m_textMany m_text ∧ rl_cr p_now_wrong p_now_worn p_now_last v_hasImage v_kept_wrong v_kept_worn v_kept_last q_wronged m_imageWronged q_worn q_lastBend := by
  obtain ⟨⟨r8, p_now_high, p_now_wide, p_now_folds, p_now_wrong, p_now_more, p_now_rowOf, p_now_colOf, p_now_below, p_now_face, p_now_worn, p_now_last, p_now_bend, p_now_tall, p_wearing_stacked, p_wearing_stack⟩, e8, -⟩ := st8_fold (x1 := x1) (x2 := x2) (v_now_folds := v_now_folds) (v_now_wrong := v_now_wrong) (v_now_more := v_now_more) (v_wearing_stacked := v_wearing_stacked) (v_changes_value := v_changes_value) g8_0 g8_1
  obtain ⟨⟨r9, q_folded, q_wronged, q_base, q_at, q_ends, q_fault, q_opened, q_bentMany, q_bentWrong, q_moreWorn, q_shapeRows, q_shapeColumns, q_row, q_column, q_below, q_face, q_worn, q_lastBend, q_names, q_bends, q_high, q_to, q_pileSize⟩, e9, -⟩ := st9_fold (x1 := x1) (x2 := x2) (v_folded := m_folded) (v_wronged := m_wronged) (v_base := m_base) (v_at := m_at) (v_ends := m_ends) (v_fault := m_fault) (v_opened := m_opened) (v_bentMany := m_bentMany) (v_bentWrong := m_bentWrong) (v_moreWorn := m_moreWorn) g9_0 g9_1 g9_2
  have k8 := wp_get (st8_fold g8_0 g8_1) e8
  have k9 := wp_get (st9_fold g9_0 g9_1 g9_2) e9
  obtain ⟨a0, a1, a2, a3, a4, a5, a6, a7, a8, a9, a10, a11, a12, a13, a14, a15, a16, a17⟩ := id g8_0
  obtain ⟨z0, z1, z2, z3, z4, z5, z6, z7, z8, z9, z10, z11, z12, z13⟩ := id g9_1
  obtain ⟨t0, t1, t2, t3, t4, t5, t6, t7, t8, t9, t10⟩ := id g9_2
  have n0 : (0 : Int32).toInt = 0 := by decide
  have n5 : (5 : Int32).toInt = 5 := by decide
  have y0 : (0 : Int32).toInt.toNat = 0 := by decide
  have y5 : (5 : Int32).toInt.toNat = 5 := by decide
  obtain ⟨b1, b2, b3, b4, b5, b6⟩ := hr_0
  subst b1 b2
  have hf := i_fl z0 z1 z2 z3
  obtain ⟨l1, l2, l3⟩ := id b5
  have g1 : mm_ig m_shapeRows (0 : Int32) = v_now_high := by rw [ge_ig, y0]; exact l1
  have g2 : mm_ig m_shapeColumns (0 : Int32) = v_now_wide := by rw [ge_ig, y0]; exact l2
  have R : rl_ge m_rowsOf m_columnsOf p_now_high p_now_wide p_now_folds p_now_rowOf p_now_colOf p_now_below p_now_face v_hasImage v_kept_rows v_kept_cols v_kept_high v_kept_wide v_kept_folds v_kept_rowOf v_kept_colOf v_kept_below v_kept_face m_rowsOf m_columnsOf q_folded m_isKept m_imageRows m_imageColumns m_imageFolded q_shapeRows q_shapeColumns q_row q_column q_below q_face := by
    rcases fo_8 e8 with ⟨o8, h8⟩ | ⟨o8, h8⟩
    · rcases fo_9 z4 z5 g1 g2 ⟨a4, a5⟩ ⟨a6, a7⟩ e9 with ⟨o9, h9⟩ | ⟨o9, h9⟩
      · obtain ⟨c1, c2, c3, c4, c5, c6, c7⟩ := h8
        obtain ⟨d1, d2, d3, d4, d5, d6, d7⟩ := h9
        subst c1 c2 c3 c4 c5 c6 c7 d1 d2 d3 d4 d5 d6 d7
        exact ⟨rfl, rfl, b3, b4, b5, b6⟩
      · exact absurd o9 o8
    · rcases fo_9 z4 z5 g1 g2 ⟨a4, a5⟩ ⟨a6, a7⟩ e9 with ⟨o9, h9⟩ | ⟨o9, h9⟩
      · exact absurd o8 o9
      · obtain ⟨c1, c2⟩ := h8
        obtain ⟨d1, d2⟩ := h9
        have q := tr_e (m := (m_rowsOf.toInt * m_columnsOf.toInt).toNat) (lv := (0 : Int32)) (by omega) (by omega) (by omega) (by omega) o8.1.1 o8.1.2 a8 a9 a10 a11 a15 z6 z7 z8 z9 t8 t9 t10 z4 z5 ⟨a4, a5⟩ ⟨a6, a7⟩ (fun k hk => zn_n a16 (by omega) (by omega) (by omega)) (fun k hk => zn_n a17 (by omega) (by omega) (by omega)) g1 g2 (by rw [y0]; exact l3) c2 d2
        rw [ge_ig, ge_ig, y0, Nat.mul_zero] at q
        obtain ⟨q1, q2, q3, q4, q5, -⟩ := q
        refine ⟨rfl, rfl, by rw [c1, d1, b3], b4, ⟨q1, q2, q3⟩, fun hk => ?_⟩
        obtain ⟨f1, f2, f3, f4⟩ := b6 hk
        subst f1 f2
        have hk2 : ¬ (m_isKept = false) := by rw [b4, hk]; decide
        obtain ⟨u0, u1, u2, u3, -⟩ := z13 hk2
        exact ⟨rfl, rfl, f3, lg_t f4 (i_fl u0 u1 u2 u3).2.2 (q5 5 (by omega) (by omega)).1 (q5 5 (by omega) (by omega)).2 (fun j j0 j1 => q4 j (by omega) (by omega))⟩
  obtain ⟨s1, s2, s3, s4⟩ := hr_3
  obtain ⟨-, -, v3, -, -⟩ := id hr_1
  obtain ⟨-, -, y2, y3, -, -, -, y7, -, y9⟩ := id g8_1
  have X : r9 = r8 ∧ rl_cr p_now_wrong p_now_worn p_now_last v_hasImage v_kept_wrong v_kept_worn v_kept_last q_wronged m_imageWronged q_worn q_lastBend := by
    rcases fc_8 e8 with ⟨o8, c1, c2, c3, c4⟩ | ⟨o8, c1⟩
    · rcases fc_9 z4 z5 g1 g2 ⟨a4, a5⟩ ⟨a6, a7⟩ e9 with ⟨o9, d1, d2, d3, d4⟩ | ⟨o9, d1, d2, d3⟩
      · rw [c2, c3, c4, d2, d3, d4]
        exact ⟨d1.trans c1.symm, s1, s2, s3, s4⟩
      · exact absurd o9 o8
    · rcases fc_9 z4 z5 g1 g2 ⟨a4, a5⟩ ⟨a6, a7⟩ e9 with ⟨o9, d1, d2, d3, d4⟩ | ⟨o9, d1, d2, d3⟩
      · exact absurd o8 o9
      · obtain ⟨q1, q2, q3, q4, q5, q6, q7, -, -, q10⟩ := bc_e (lv := (0 : Int32)) (by omega) (by omega) g8_0 y2 y3 y7 y9 o8 ⟨z4, z5, z6, z7, z8, z9, t8, t9, t10⟩ (by rw [y0]; exact b5) hr_2 (by rw [v3]; rfl) z10 z11 t6 t7 (by rw [y0]; exact s2) (by rw [y0]; exact s3) c1 d3
        rw [y0] at q4 q5 q10
        refine ⟨d1.trans q1.symm, ?_, q4, q5, fun e => ⟨(s4 e).1, fun k hk => (q10 _ (by omega) (by omega)).1.trans ((s4 e).2.1 k hk), fun k hk => (q10 _ (by omega) (by omega)).2.trans ((s4 e).2.2 k hk)⟩⟩
        rw [d2, q2, s1]
  obtain ⟨er, X⟩ := X
  subst er
  exact ⟨_, _, _, _, _, _, _, _, _, _, _, _, _, _, _, _, _, _, _, _, _, _, _, _, _, _, _, _, _, _, _, _, _, _, _, _, _, _, _, e8, e9, k8.1, k8.2, k9.1, k9.2, R, hr_1, hr_2, X⟩
set_option maxHeartbeats 4000000 in
set_option maxRecDepth 20000 in
theorem rs_image_cr {v_hasImage : Bool} {v_now_rows : Int32} {v_now_cols : Int32} {v_now_high : Int32} {v_now_wide : Int32} {v_now_folds : Int32} {v_now_wrong : Int32} {v_now_more : Int32} {v_now_rowOf : List Int32} {v_now_colOf : List Int32} {v_now_below : List Int32} {v_now_face : List Int32} {v_now_worn : List Int32} {v_now_last : List Int32} {v_kept_rows : Int32} {v_kept_cols : Int32} {v_kept_high : Int32} {v_kept_wide : Int32} {v_kept_folds : Int32} {v_kept_wrong : Int32} {v_kept_more : Int32} {v_kept_rowOf : List Int32} {v_kept_colOf : List Int32} {v_kept_below : List Int32} {v_kept_face : List Int32} {v_kept_worn : List Int32} {v_kept_last : List Int32} {v_now_bend : List Int32} {v_now_tall : List Int32} {v_kept_bend : List Int32} {v_kept_tall : List Int32} {m_rowsOf : Int32} {m_columnsOf : Int32} {m_folded : Int32} {m_wronged : Int32} {m_isKept : Bool} {m_imageRows : Int32} {m_imageColumns : Int32} {m_imageFolded : Int32} {m_imageWronged : Int32} {m_shapeRows : List Int32} {m_shapeColumns : List Int32} {m_row : List Int32} {m_column : List Int32} {m_below : List Int32} {m_face : List Int32} {m_worn : List Int32} {m_lastBend : List Int32} (g8_0 : gi_sh v_now_rows v_now_cols v_now_high v_now_wide v_now_rowOf v_now_colOf v_now_below v_now_face v_now_worn v_now_last v_now_bend v_now_tall) (g8_1 : gi_sh v_kept_rows v_kept_cols v_kept_high v_kept_wide v_kept_rowOf v_kept_colOf v_kept_below v_kept_face v_kept_worn v_kept_last v_kept_bend v_kept_tall) (g9_0 : gm_sh m_rowsOf m_columnsOf m_isKept m_imageRows m_imageColumns m_shapeRows m_shapeColumns m_row m_column m_below m_face m_worn m_lastBend) (hr_0 : rl_ge v_now_rows v_now_cols v_now_high v_now_wide v_now_folds v_now_rowOf v_now_colOf v_now_below v_now_face v_hasImage v_kept_rows v_kept_cols v_kept_high v_kept_wide v_kept_folds v_kept_rowOf v_kept_colOf v_kept_below v_kept_face m_rowsOf m_columnsOf m_folded m_isKept m_imageRows m_imageColumns m_imageFolded m_shapeRows m_shapeColumns m_row m_column m_below m_face) (hr_1 : rl_cr v_now_wrong v_now_worn v_now_last v_hasImage v_kept_wrong v_kept_worn v_kept_last m_wronged m_imageWronged m_worn m_lastBend) : ∃ (r : Int32) (p_hasImage : Bool) (p_kept_rows : Int32) (p_kept_cols : Int32) (p_kept_high : Int32) (p_kept_wide : Int32) (p_kept_folds : Int32) (p_kept_wrong : Int32) (p_kept_more : Int32) (p_kept_rowOf : List Int32) (p_kept_colOf : List Int32) (p_kept_below : List Int32) (p_kept_face : List Int32) (p_kept_worn : List Int32) (p_kept_last : List Int32) (q_isKept : Bool) (q_imageRows : Int32) (q_imageColumns : Int32) (q_imageFolded : Int32) (q_imageWronged : Int32) (q_shapeRows : List Int32) (q_shapeColumns : List Int32) (q_row : List Int32) (q_column : List Int32) (q_below : List Int32) (q_face : List Int32) (q_worn : List Int32) (q_lastBend : List Int32), fX8_image 700 v_hasImage v_now_rows v_now_cols v_now_high v_now_wide v_now_folds v_now_wrong v_now_more v_now_rowOf v_now_colOf v_now_below v_now_face v_now_worn v_now_last v_kept_rows v_kept_cols v_kept_high v_kept_wide v_kept_folds v_kept_wrong v_kept_more v_kept_rowOf v_kept_colOf v_kept_below v_kept_face v_kept_worn v_kept_last = some (r, p_hasImage, p_kept_rows, p_kept_cols, p_kept_high, p_kept_wide, p_kept_folds, p_kept_wrong, p_kept_more, p_kept_rowOf, p_kept_colOf, p_kept_below, p_kept_face, p_kept_worn, p_kept_last) ∧ fX9_image 700 m_rowsOf m_columnsOf m_folded m_wronged m_isKept m_imageRows m_imageColumns m_imageFolded m_imageWronged m_shapeRows m_shapeColumns m_row m_column m_below m_face m_worn m_lastBend = some (r, q_isKept, q_imageRows, q_imageColumns, q_imageFolded, q_imageWronged, q_shapeRows, q_shapeColumns, q_row, q_column, q_below, q_face, q_worn, q_lastBend) ∧ gi_sh p_kept_rows p_kept_cols p_kept_high p_kept_wide p_kept_rowOf p_kept_colOf p_kept_below p_kept_face p_kept_worn p_kept_last v_kept_bend v_kept_tall ∧ gm_sh m_rowsOf m_columnsOf q_isKept q_imageRows q_imageColumns q_shapeRows q_shapeColumns q_row q_column q_below q_face q_worn q_lastBend ∧ rl_ge v_now_rows v_now_cols v_now_high v_now_wide v_now_folds v_now_rowOf v_now_colOf v_now_below v_now_face p_hasImage p_kept_rows p_kept_cols p_kept_high p_kept_wide p_kept_folds p_kept_rowOf p_kept_colOf p_kept_below p_kept_face m_rowsOf m_columnsOf m_folded q_isKept q_imageRows q_imageColumns q_imageFolded q_shapeRows q_shapeColumns q_row q_column q_below q_face ∧ rl_cr v_now_wrong v_now_worn v_now_last p_hasImage p_kept_wrong p_kept_worn p_kept_last m_wronged q_imageWronged q_worn q_lastBend := by
  obtain ⟨⟨r8, p_hasImage, p_kept_rows, p_kept_cols, p_kept_high, p_kept_wide, p_kept_folds, p_kept_wrong, p_kept_more, p_kept_rowOf, p_kept_colOf, p_kept_below, p_kept_face, p_kept_worn, p_kept_last⟩, e8, -⟩ := st8_image  (v_hasImage := v_hasImage) (v_now_folds := v_now_folds) (v_now_wrong := v_now_wrong) (v_now_more := v_now_more) (v_kept_folds := v_kept_folds) (v_kept_wrong := v_kept_wrong) (v_kept_more := v_kept_more) g8_0 g8_1
  obtain ⟨⟨r9, q_isKept, q_imageRows, q_imageColumns, q_imageFolded, q_imageWronged, q_shapeRows, q_shapeColumns, q_row, q_column, q_below, q_face, q_worn, q_lastBend⟩, e9, -⟩ := st9_image  (v_folded := m_folded) (v_wronged := m_wronged) (v_imageFolded := m_imageFolded) (v_imageWronged := m_imageWronged) g9_0
  have k8 := wp_get (st8_image g8_0 g8_1) e8
  have k9 := wp_get (st9_image g9_0) e9
  obtain ⟨a0, a1, a2, a3, a4, a5, a6, a7, a8, a9, a10, a11, a12, a13, a14, a15, a16, a17⟩ := id g8_0
  obtain ⟨c0, c1, c2, c3, c4, c5, c6, c7, c8, c9, c10, c11, c12, c13, c14, c15, c16, c17⟩ := id g8_1
  obtain ⟨z0, z1, z2, z3, z4, z5, z6, z7, z8, z9, z10, z11, z12, z13⟩ := id g9_0
  have n0 : (0 : Int32).toInt = 0 := by decide
  have n5 : (5 : Int32).toInt = 5 := by decide
  have y0 : (0 : Int32).toInt.toNat = 0 := by decide
  have y5 : (5 : Int32).toInt.toNat = 5 := by decide
  obtain ⟨b1, b2, b3, b4, b5, b6⟩ := hr_0
  subst b1 b2
  have hf := i_fl z0 z1 z2 z3
  obtain ⟨l1, l2, l3⟩ := id b5
  have RR : r9 = r8 ∧ rl_ge m_rowsOf m_columnsOf v_now_high v_now_wide v_now_folds v_now_rowOf v_now_colOf v_now_below v_now_face p_hasImage p_kept_rows p_kept_cols p_kept_high p_kept_wide p_kept_folds p_kept_rowOf p_kept_colOf p_kept_below p_kept_face m_rowsOf m_columnsOf m_folded q_isKept q_imageRows q_imageColumns q_imageFolded q_shapeRows q_shapeColumns q_row q_column q_below q_face := by
    have f8 := e8
    have f9 := e9
    unfold fX8_image at f8
    unfold fX9_image at f9
    rw [cp_e c8 c9 c10 c11 c12 c13 a8 a9 a10 a11 a12 a13] at f8
    obtain ⟨x1, x2, x3, x4, x5, x6, x7, x8, er, f9⟩ := mm_bd8s f9
    obtain ⟨⟨d1, d2⟩, d3, -, d5, -⟩ := co_e (by omega) (by omega) (by omega) (by omega) (by omega) z6 z7 z8 z9 z10 z11 er
    rw [y0, y5] at d5
    rw [y5] at d3
    have f8' : some (v_now_folds, true, m_rowsOf, m_columnsOf, v_now_high, v_now_wide, v_now_folds, v_now_wrong, v_now_more, v_now_rowOf, v_now_colOf, v_now_below, v_now_face, v_now_worn, v_now_last) = some (r8, p_hasImage, p_kept_rows, p_kept_cols, p_kept_high, p_kept_wide, p_kept_folds, p_kept_wrong, p_kept_more, p_kept_rowOf, p_kept_colOf, p_kept_below, p_kept_face, p_kept_worn, p_kept_last) := f8
    apply mm_sub15 f8'
    apply mm_sub14 f9
    rw [d1, d2]
    refine ⟨b3, rfl, rfl, b3, rfl, lg_t b5 hf.2.2 ?_ ?_ (fun j j0 j1 => d3 j (by omega) (by omega)), fun _ => ⟨rfl, rfl, b3, ?_, ?_, fun k hk => ?_⟩⟩
    · rw [ge_is _ _ _ _ (by omega), y5, if_neg (by decide)]
    · rw [ge_is _ _ _ _ (by omega), y5, if_neg (by decide)]
    · rw [ge_is _ _ _ _ (by omega), y5, if_pos rfl, ge_ig, y0]
      exact l1
    · rw [ge_is _ _ _ _ (by omega), y5, if_pos rfl, ge_ig, y0]
      exact l2
    · obtain ⟨u1, u2, u3, u4⟩ := d5 k (by omega)
      obtain ⟨v1, v2, v3, v4⟩ := l3 k hk
      exact ⟨by rw [u1]; exact v1, by rw [u2]; exact v2, by rw [u3]; exact v3, by rw [u4]; exact v4⟩
  obtain ⟨s1, s2, s3, s4⟩ := hr_1
  have X : rl_cr v_now_wrong v_now_worn v_now_last p_hasImage p_kept_wrong p_kept_worn p_kept_last m_wronged q_imageWronged q_worn q_lastBend := by
    have f8 := e8
    have f9 := e9
    unfold fX8_image at f8
    unfold fX9_image at f9
    rw [cp_e c8 c9 c10 c11 c12 c13 a8 a9 a10 a11 a12 a13] at f8
    obtain ⟨x1, x2, x3, x4, x5, x6, x7, x8, er, f9⟩ := mm_bd8s f9
    obtain ⟨-, -, d4, -, d6⟩ := co_e (by omega) (by omega) (by omega) (by omega) (by omega) z6 z7 z8 z9 z10 z11 er
    rw [y0, y5] at d6
    rw [y5] at d4
    have f8' : some (v_now_folds, true, m_rowsOf, m_columnsOf, v_now_high, v_now_wide, v_now_folds, v_now_wrong, v_now_more, v_now_rowOf, v_now_colOf, v_now_below, v_now_face, v_now_worn, v_now_last) = some (r8, p_hasImage, p_kept_rows, p_kept_cols, p_kept_high, p_kept_wide, p_kept_folds, p_kept_wrong, p_kept_more, p_kept_rowOf, p_kept_colOf, p_kept_below, p_kept_face, p_kept_worn, p_kept_last) := f8
    apply mm_sub15 f8'
    apply mm_sub14 f9
    refine ⟨s1, fun k hk => (d4 _ (by omega) (by omega)).1.trans (s2 k hk), fun k hk => (d4 _ (by omega) (by omega)).2.trans (s3 k hk), fun _ => ⟨s1, fun k hk => (d6 k hk).1.trans (s2 k hk), fun k hk => (d6 k hk).2.trans (s3 k hk)⟩⟩
  obtain ⟨er, R⟩ := RR
  subst er
  exact ⟨_, _, _, _, _, _, _, _, _, _, _, _, _, _, _, _, _, _, _, _, _, _, _, _, _, _, _, _, e8, e9, k8, k9, R, X⟩
set_option maxHeartbeats 4000000 in
set_option maxRecDepth 20000 in
theorem rs_back_cr {v_hasImage : Bool} {v_now_rows : Int32} {v_now_cols : Int32} {v_now_high : Int32} {v_now_wide : Int32} {v_now_folds : Int32} {v_now_wrong : Int32} {v_now_more : Int32} {v_now_rowOf : List Int32} {v_now_colOf : List Int32} {v_now_below : List Int32} {v_now_face : List Int32} {v_now_worn : List Int32} {v_now_last : List Int32} {v_kept_rows : Int32} {v_kept_cols : Int32} {v_kept_high : Int32} {v_kept_wide : Int32} {v_kept_folds : Int32} {v_kept_wrong : Int32} {v_kept_more : Int32} {v_kept_rowOf : List Int32} {v_kept_colOf : List Int32} {v_kept_below : List Int32} {v_kept_face : List Int32} {v_kept_worn : List Int32} {v_kept_last : List Int32} {v_now_bend : List Int32} {v_now_tall : List Int32} {v_kept_bend : List Int32} {v_kept_tall : List Int32} {m_rowsOf : Int32} {m_columnsOf : Int32} {m_folded : Int32} {m_wronged : Int32} {m_isKept : Bool} {m_imageRows : Int32} {m_imageColumns : Int32} {m_imageFolded : Int32} {m_imageWronged : Int32} {m_shapeRows : List Int32} {m_shapeColumns : List Int32} {m_row : List Int32} {m_column : List Int32} {m_below : List Int32} {m_face : List Int32} {m_worn : List Int32} {m_lastBend : List Int32} (g8_0 : gi_sh v_now_rows v_now_cols v_now_high v_now_wide v_now_rowOf v_now_colOf v_now_below v_now_face v_now_worn v_now_last v_now_bend v_now_tall) (g8_1 : gi_sh v_kept_rows v_kept_cols v_kept_high v_kept_wide v_kept_rowOf v_kept_colOf v_kept_below v_kept_face v_kept_worn v_kept_last v_kept_bend v_kept_tall) (g9_0 : gm_sh m_rowsOf m_columnsOf m_isKept m_imageRows m_imageColumns m_shapeRows m_shapeColumns m_row m_column m_below m_face m_worn m_lastBend) (hr_0 : rl_ge v_now_rows v_now_cols v_now_high v_now_wide v_now_folds v_now_rowOf v_now_colOf v_now_below v_now_face v_hasImage v_kept_rows v_kept_cols v_kept_high v_kept_wide v_kept_folds v_kept_rowOf v_kept_colOf v_kept_below v_kept_face m_rowsOf m_columnsOf m_folded m_isKept m_imageRows m_imageColumns m_imageFolded m_shapeRows m_shapeColumns m_row m_column m_below m_face) (hr_1 : rl_cr v_now_wrong v_now_worn v_now_last v_hasImage v_kept_wrong v_kept_worn v_kept_last m_wronged m_imageWronged m_worn m_lastBend) : ∃ (r : Int32) (p_now_rows : Int32) (p_now_cols : Int32) (p_now_high : Int32) (p_now_wide : Int32) (p_now_folds : Int32) (p_now_wrong : Int32) (p_now_more : Int32) (p_now_rowOf : List Int32) (p_now_colOf : List Int32) (p_now_below : List Int32) (p_now_face : List Int32) (p_now_worn : List Int32) (p_now_last : List Int32) (q_rowsOf : Int32) (q_columnsOf : Int32) (q_folded : Int32) (q_wronged : Int32) (q_shapeRows : List Int32) (q_shapeColumns : List Int32) (q_row : List Int32) (q_column : List Int32) (q_below : List Int32) (q_face : List Int32) (q_worn : List Int32) (q_lastBend : List Int32), fX8_back 700 v_hasImage v_now_rows v_now_cols v_now_high v_now_wide v_now_folds v_now_wrong v_now_more v_now_rowOf v_now_colOf v_now_below v_now_face v_now_worn v_now_last v_kept_rows v_kept_cols v_kept_high v_kept_wide v_kept_folds v_kept_wrong v_kept_more v_kept_rowOf v_kept_colOf v_kept_below v_kept_face v_kept_worn v_kept_last = some (r, p_now_rows, p_now_cols, p_now_high, p_now_wide, p_now_folds, p_now_wrong, p_now_more, p_now_rowOf, p_now_colOf, p_now_below, p_now_face, p_now_worn, p_now_last) ∧ fX9_back 700 m_rowsOf m_columnsOf m_folded m_wronged m_isKept m_imageRows m_imageColumns m_imageFolded m_imageWronged m_shapeRows m_shapeColumns m_row m_column m_below m_face m_worn m_lastBend = some (r, q_rowsOf, q_columnsOf, q_folded, q_wronged, q_shapeRows, q_shapeColumns, q_row, q_column, q_below, q_face, q_worn, q_lastBend) ∧ gi_sh p_now_rows p_now_cols p_now_high p_now_wide p_now_rowOf p_now_colOf p_now_below p_now_face p_now_worn p_now_last v_now_bend v_now_tall ∧ gm_sh q_rowsOf q_columnsOf m_isKept m_imageRows m_imageColumns q_shapeRows q_shapeColumns q_row q_column q_below q_face q_worn q_lastBend ∧ rl_ge p_now_rows p_now_cols p_now_high p_now_wide p_now_folds p_now_rowOf p_now_colOf p_now_below p_now_face v_hasImage v_kept_rows v_kept_cols v_kept_high v_kept_wide v_kept_folds v_kept_rowOf v_kept_colOf v_kept_below v_kept_face q_rowsOf q_columnsOf q_folded m_isKept m_imageRows m_imageColumns m_imageFolded q_shapeRows q_shapeColumns q_row q_column q_below q_face ∧ rl_cr p_now_wrong p_now_worn p_now_last v_hasImage v_kept_wrong v_kept_worn v_kept_last q_wronged m_imageWronged q_worn q_lastBend := by
  obtain ⟨⟨r8, p_now_rows, p_now_cols, p_now_high, p_now_wide, p_now_folds, p_now_wrong, p_now_more, p_now_rowOf, p_now_colOf, p_now_below, p_now_face, p_now_worn, p_now_last⟩, e8, -⟩ := st8_back  (v_hasImage := v_hasImage) (v_now_folds := v_now_folds) (v_now_wrong := v_now_wrong) (v_now_more := v_now_more) (v_kept_folds := v_kept_folds) (v_kept_wrong := v_kept_wrong) (v_kept_more := v_kept_more) g8_0 g8_1
  obtain ⟨⟨r9, q_rowsOf, q_columnsOf, q_folded, q_wronged, q_shapeRows, q_shapeColumns, q_row, q_column, q_below, q_face, q_worn, q_lastBend⟩, e9, -⟩ := st9_back  (v_folded := m_folded) (v_wronged := m_wronged) (v_imageFolded := m_imageFolded) (v_imageWronged := m_imageWronged) g9_0
  have k8 := wp_get (st8_back g8_0 g8_1) e8
  have k9 := wp_get (st9_back g9_0) e9
  obtain ⟨a0, a1, a2, a3, a4, a5, a6, a7, a8, a9, a10, a11, a12, a13, a14, a15, a16, a17⟩ := id g8_0
  obtain ⟨c0, c1, c2, c3, c4, c5, c6, c7, c8, c9, c10, c11, c12, c13, c14, c15, c16, c17⟩ := id g8_1
  obtain ⟨z0, z1, z2, z3, z4, z5, z6, z7, z8, z9, z10, z11, z12, z13⟩ := id g9_0
  have n0 : (0 : Int32).toInt = 0 := by decide
  have n5 : (5 : Int32).toInt = 5 := by decide
  have y0 : (0 : Int32).toInt.toNat = 0 := by decide
  have y5 : (5 : Int32).toInt.toNat = 5 := by decide
  obtain ⟨b1, b2, b3, b4, b5, b6⟩ := hr_0
  have RR : r9 = r8 ∧ rl_ge p_now_rows p_now_cols p_now_high p_now_wide p_now_folds p_now_rowOf p_now_colOf p_now_below p_now_face v_hasImage v_kept_rows v_kept_cols v_kept_high v_kept_wide v_kept_folds v_kept_rowOf v_kept_colOf v_kept_below v_kept_face q_rowsOf q_columnsOf q_folded m_isKept m_imageRows m_imageColumns m_imageFolded q_shapeRows q_shapeColumns q_row q_column q_below q_face := by
    have f8 := e8
    have f9 := e9
    unfold fX8_back at f8
    unfold fX9_back at f9
    by_cases h : v_hasImage = false
    · rw [if_pos h] at f8
      rw [if_pos (by rw [b4]; exact h)] at f9
      apply mm_sub14 f8
      apply mm_sub13 f9
      exact ⟨rfl, b1, b2, b3, b4, b5, b6⟩
    · have hk : v_hasImage = true := by
        cases hv : v_hasImage
        · exact absurd hv h
        · rfl
      have hk2 : ¬ (m_isKept = false) := by rw [b4, hk]; decide
      obtain ⟨j1, j2, j3, j4⟩ := b6 hk
      obtain ⟨u0, u1, u2, u3, -⟩ := z13 hk2
      have m32 := (i_fl u0 u1 u2 u3).2.2
      obtain ⟨l1, l2, l3⟩ := id j4
      rw [if_neg h, cp_e a8 a9 a10 a11 a12 a13 c8 c9 c10 c11 c12 c13] at f8
      rw [if_neg hk2] at f9
      obtain ⟨x1, x2, x3, x4, x5, x6, x7, x8, er, f9⟩ := mm_bd8s f9
      obtain ⟨⟨d1, d2⟩, d3, -, d5, -⟩ := co_e (by omega) (by omega) (by omega) (by omega) (by omega) z6 z7 z8 z9 z10 z11 er
      rw [y0, y5] at d5
      rw [y0] at d3
      have f8' : some (v_kept_folds, v_kept_rows, v_kept_cols, v_kept_high, v_kept_wide, v_kept_folds, v_kept_wrong, v_kept_more, v_kept_rowOf, v_kept_colOf, v_kept_below, v_kept_face, v_kept_worn, v_kept_last) = some (r8, p_now_rows, p_now_cols, p_now_high, p_now_wide, p_now_folds, p_now_wrong, p_now_more, p_now_rowOf, p_now_colOf, p_now_below, p_now_face, p_now_worn, p_now_last) := f8
      apply mm_sub14 f8'
      apply mm_sub13 f9
      rw [d1, d2]
      refine ⟨j3, j1, j2, j3, b4, ⟨?_, ?_, fun k hk3 => ?_⟩, fun _ => ⟨j1, j2, j3, lg_t j4 (by rw [← j1, ← j2]; exact m32) ?_ ?_ (fun j j0 j1 => d3 j (by omega) (by omega))⟩⟩
      · rw [ge_is _ _ _ _ (by omega), y0, if_pos rfl, ge_ig, y5]
        exact l1
      · rw [ge_is _ _ _ _ (by omega), y0, if_pos rfl, ge_ig, y5]
        exact l2
      · rw [← j1, ← j2] at hk3
        obtain ⟨u1, u2, u3, u4⟩ := d5 k (by omega)
        rw [j1, j2] at hk3
        obtain ⟨v1, v2, v3, v4⟩ := l3 k hk3
        exact ⟨by rw [u1]; exact v1, by rw [u2]; exact v2, by rw [u3]; exact v3, by rw [u4]; exact v4⟩
      · rw [ge_is _ _ _ _ (by omega), y0, if_neg (by decide)]
      · rw [ge_is _ _ _ _ (by omega), y0, if_neg (by decide)]
  obtain ⟨s1, s2, s3, s4⟩ := hr_1
  have X : rl_cr p_now_wrong p_now_worn p_now_last v_hasImage v_kept_wrong v_kept_worn v_kept_last q_wronged m_imageWronged q_worn q_lastBend := by
    have f8 := e8
    have f9 := e9
    unfold fX8_back at f8
    unfold fX9_back at f9
    by_cases h : v_hasImage = false
    · rw [if_pos h] at f8
      rw [if_pos (by rw [b4]; exact h)] at f9
      apply mm_sub14 f8
      apply mm_sub13 f9
      exact ⟨s1, s2, s3, s4⟩
    · have hk : v_hasImage = true := by
        cases hv : v_hasImage
        · exact absurd hv h
        · rfl
      have hk2 : ¬ (m_isKept = false) := by rw [b4, hk]; decide
      obtain ⟨j1, j2, j3⟩ := s4 hk
      rw [if_neg h, cp_e a8 a9 a10 a11 a12 a13 c8 c9 c10 c11 c12 c13] at f8
      rw [if_neg hk2] at f9
      obtain ⟨x1, x2, x3, x4, x5, x6, x7, x8, er, f9⟩ := mm_bd8s f9
      obtain ⟨-, -, d4, -, d6⟩ := co_e (by omega) (by omega) (by omega) (by omega) (by omega) z6 z7 z8 z9 z10 z11 er
      rw [y0, y5] at d6
      rw [y0] at d4
      have f8' : some (v_kept_folds, v_kept_rows, v_kept_cols, v_kept_high, v_kept_wide, v_kept_folds, v_kept_wrong, v_kept_more, v_kept_rowOf, v_kept_colOf, v_kept_below, v_kept_face, v_kept_worn, v_kept_last) = some (r8, p_now_rows, p_now_cols, p_now_high, p_now_wide, p_now_folds, p_now_wrong, p_now_more, p_now_rowOf, p_now_colOf, p_now_below, p_now_face, p_now_worn, p_now_last) := f8
      apply mm_sub14 f8'
      apply mm_sub13 f9
      exact ⟨j1, fun k hk => (d6 k hk).1.trans (j2 k hk), fun k hk => (d6 k hk).2.trans (j3 k hk), fun _ => ⟨j1, fun k hk => (d4 _ (by omega) (by omega)).1.trans (j2 k hk), fun k hk => (d4 _ (by omega) (by omega)).2.trans (j3 k hk)⟩⟩
  obtain ⟨er, R⟩ := RR
  subst er
  exact ⟨_, _, _, _, _, _, _, _, _, _, _, _, _, _, _, _, _, _, _, _, _, _, _, _, _, _, e8, e9, k8, k9, R, X⟩
end
section
/-! Creases kept by calls that work on other levels -/
theorem fk_cost_cr {x1 : Int32} {v_now_wrong : Int32} {v_now_worn : List Int32} {v_now_last : List Int32} {v_hasImage : Bool} {v_kept_wrong : Int32} {v_kept_worn : List Int32} {v_kept_last : List Int32} {m_rowsOf : Int32} {m_columnsOf : Int32} {m_textMany : Int32} {m_base : Int32} {m_at : Int32} {m_ends : Int32} {m_fault : Int32} {m_opened : Int32} {m_bentMany : Int32} {m_bentWrong : Int32} {m_moreWorn : Int32} {m_planned : Int32} {m_allWrong : Int32} {m_allWorn : Int32} {m_z : Int32} {m_limit : List Int32} {m_shapeRows : List Int32} {m_shapeColumns : List Int32} {m_row : List Int32} {m_column : List Int32} {m_below : List Int32} {m_face : List Int32} {m_worn : List Int32} {m_lastBend : List Int32} {m_tape : List Int32} {m_text : List Int32} {m_names : List Int32} {m_bends : List Int32} {m_high : List Int32} {m_to : List Int32} {m_pileSize : List Int32} {m_planLine : List Int32} {m_planWay : List Int32} {m_keptMany : Int32} {m_done : Int32} {m_changeWas : List Int32} {m_changeIs : List Int32} {m_isKept : Bool} {m_imageRows : Int32} {m_imageColumns : Int32} {m_tapeMany : Int32} {m_wronged : Int32} {m_imageWronged : Int32} {r9 : Int32} {q_base : Int32} {q_at : Int32} {q_ends : Int32} {q_fault : Int32} {q_opened : Int32} {q_bentMany : Int32} {q_bentWrong : Int32} {q_moreWorn : Int32} {q_allWrong : Int32} {q_allWorn : Int32} {q_z : Int32} {q_shapeRows : List Int32} {q_shapeColumns : List Int32} {q_row : List Int32} {q_column : List Int32} {q_below : List Int32} {q_face : List Int32} {q_worn : List Int32} {q_lastBend : List Int32} {q_names : List Int32} {q_bends : List Int32} {q_high : List Int32} {q_to : List Int32} {q_pileSize : List Int32} (g9_0 : gm_ch m_keptMany m_done m_limit m_changeWas m_changeIs) (g9_1 : gm_sh m_rowsOf m_columnsOf m_isKept m_imageRows m_imageColumns m_shapeRows m_shapeColumns m_row m_column m_below m_face m_worn m_lastBend) (g9_2 : gm_tx m_tapeMany m_textMany m_tape m_text m_names m_bends m_high m_to m_pileSize) (g9_3 : gm_pl m_planned m_planLine m_planWay) (hr_0 : rl_cr v_now_wrong v_now_worn v_now_last v_hasImage v_kept_wrong v_kept_worn v_kept_last m_wronged m_imageWronged m_worn m_lastBend) (e9 : fX9_cost 700 x1 m_rowsOf m_columnsOf m_textMany m_base m_at m_ends m_fault m_opened m_bentMany m_bentWrong m_moreWorn m_planned m_allWrong m_allWorn m_z m_limit m_shapeRows m_shapeColumns m_row m_column m_below m_face m_worn m_lastBend m_tape m_text m_names m_bends m_high m_to m_pileSize m_planLine m_planWay = some (r9, q_base, q_at, q_ends, q_fault, q_opened, q_bentMany, q_bentWrong, q_moreWorn, q_allWrong, q_allWorn, q_z, q_shapeRows, q_shapeColumns, q_row, q_column, q_below, q_face, q_worn, q_lastBend, q_names, q_bends, q_high, q_to, q_pileSize)) : rl_cr v_now_wrong v_now_worn v_now_last v_hasImage v_kept_wrong v_kept_worn v_kept_last m_wronged m_imageWronged q_worn q_lastBend := by
  have f9 := (wp_get (sg9_cost g9_0 g9_1 g9_2 g9_3) e9).2
  obtain ⟨-, -, -, -, -, -, -, -, -, -, z10, z11, -⟩ := id g9_1
  exact cr_fr hr_0 z10 z11 f9.1 f9.2
theorem fk_lies_cr {x1 : Int32} {x2 : Int32} {v_now_wrong : Int32} {v_now_worn : List Int32} {v_now_last : List Int32} {v_hasImage : Bool} {v_kept_wrong : Int32} {v_kept_worn : List Int32} {v_kept_last : List Int32} {m_rowsOf : Int32} {m_columnsOf : Int32} {m_textMany : Int32} {m_base : Int32} {m_at : Int32} {m_ends : Int32} {m_fault : Int32} {m_opened : Int32} {m_bentMany : Int32} {m_bentWrong : Int32} {m_moreWorn : Int32} {m_planned : Int32} {m_allWrong : Int32} {m_allWorn : Int32} {m_z : Int32} {m_limit : List Int32} {m_shapeRows : List Int32} {m_shapeColumns : List Int32} {m_row : List Int32} {m_column : List Int32} {m_below : List Int32} {m_face : List Int32} {m_worn : List Int32} {m_lastBend : List Int32} {m_tape : List Int32} {m_text : List Int32} {m_names : List Int32} {m_bends : List Int32} {m_high : List Int32} {m_to : List Int32} {m_pileSize : List Int32} {m_planLine : List Int32} {m_planWay : List Int32} {m_keptMany : Int32} {m_done : Int32} {m_changeWas : List Int32} {m_changeIs : List Int32} {m_isKept : Bool} {m_imageRows : Int32} {m_imageColumns : Int32} {m_tapeMany : Int32} {m_wronged : Int32} {m_imageWronged : Int32} {r9 : Int32} {q_base : Int32} {q_at : Int32} {q_ends : Int32} {q_fault : Int32} {q_opened : Int32} {q_bentMany : Int32} {q_bentWrong : Int32} {q_moreWorn : Int32} {q_allWrong : Int32} {q_allWorn : Int32} {q_z : Int32} {q_shapeRows : List Int32} {q_shapeColumns : List Int32} {q_row : List Int32} {q_column : List Int32} {q_below : List Int32} {q_face : List Int32} {q_worn : List Int32} {q_lastBend : List Int32} {q_names : List Int32} {q_bends : List Int32} {q_high : List Int32} {q_to : List Int32} {q_pileSize : List Int32} (g9_0 : gm_ch m_keptMany m_done m_limit m_changeWas m_changeIs) (g9_1 : gm_sh m_rowsOf m_columnsOf m_isKept m_imageRows m_imageColumns m_shapeRows m_shapeColumns m_row m_column m_below m_face m_worn m_lastBend) (g9_2 : gm_tx m_tapeMany m_textMany m_tape m_text m_names m_bends m_high m_to m_pileSize) (g9_3 : gm_pl m_planned m_planLine m_planWay) (hr_0 : rl_cr v_now_wrong v_now_worn v_now_last v_hasImage v_kept_wrong v_kept_worn v_kept_last m_wronged m_imageWronged m_worn m_lastBend) (e9 : fX9_lies 700 x1 x2 m_rowsOf m_columnsOf m_textMany m_base m_at m_ends m_fault m_opened m_bentMany m_bentWrong m_moreWorn m_planned m_allWrong m_allWorn m_z m_limit m_shapeRows m_shapeColumns m_row m_column m_below m_face m_worn m_lastBend m_tape m_text m_names m_bends m_high m_to m_pileSize m_planLine m_planWay = some (r9, q_base, q_at, q_ends, q_fault, q_opened, q_bentMany, q_bentWrong, q_moreWorn, q_allWrong, q_allWorn, q_z, q_shapeRows, q_shapeColumns, q_row, q_column, q_below, q_face, q_worn, q_lastBend, q_names, q_bends, q_high, q_to, q_pileSize)) : rl_cr v_now_wrong v_now_worn v_now_last v_hasImage v_kept_wrong v_kept_worn v_kept_last m_wronged m_imageWronged q_worn q_lastBend := by
  have f9 := (wp_get (sg9_lies g9_0 g9_1 g9_2 g9_3) e9).2
  obtain ⟨-, -, -, -, -, -, -, -, -, -, z10, z11, -⟩ := id g9_1
  exact cr_fr hr_0 z10 z11 f9.1 f9.2
theorem fk_top_cr {x1 : Int32} {x2 : Int32} {v_now_wrong : Int32} {v_now_worn : List Int32} {v_now_last : List Int32} {v_hasImage : Bool} {v_kept_wrong : Int32} {v_kept_worn : List Int32} {v_kept_last : List Int32} {m_rowsOf : Int32} {m_columnsOf : Int32} {m_textMany : Int32} {m_base : Int32} {m_at : Int32} {m_ends : Int32} {m_fault : Int32} {m_opened : Int32} {m_bentMany : Int32} {m_bentWrong : Int32} {m_moreWorn : Int32} {m_planned : Int32} {m_allWrong : Int32} {m_allWorn : Int32} {m_z : Int32} {m_limit : List Int32} {m_shapeRows : List Int32} {m_shapeColumns : List Int32} {m_row : List Int32} {m_column : List Int32} {m_below : List Int32} {m_face : List Int32} {m_worn : List Int32} {m_lastBend : List Int32} {m_tape : List Int32} {m_text : List Int32} {m_names : List Int32} {m_bends : List Int32} {m_high : List Int32} {m_to : List Int32} {m_pileSize : List Int32} {m_planLine : List Int32} {m_planWay : List Int32} {m_keptMany : Int32} {m_done : Int32} {m_changeWas : List Int32} {m_changeIs : List Int32} {m_isKept : Bool} {m_imageRows : Int32} {m_imageColumns : Int32} {m_tapeMany : Int32} {m_wronged : Int32} {m_imageWronged : Int32} {r9 : Int32} {q_base : Int32} {q_at : Int32} {q_ends : Int32} {q_fault : Int32} {q_opened : Int32} {q_bentMany : Int32} {q_bentWrong : Int32} {q_moreWorn : Int32} {q_allWrong : Int32} {q_allWorn : Int32} {q_z : Int32} {q_shapeRows : List Int32} {q_shapeColumns : List Int32} {q_row : List Int32} {q_column : List Int32} {q_below : List Int32} {q_face : List Int32} {q_worn : List Int32} {q_lastBend : List Int32} {q_names : List Int32} {q_bends : List Int32} {q_high : List Int32} {q_to : List Int32} {q_pileSize : List Int32} (g9_0 : gm_ch m_keptMany m_done m_limit m_changeWas m_changeIs) (g9_1 : gm_sh m_rowsOf m_columnsOf m_isKept m_imageRows m_imageColumns m_shapeRows m_shapeColumns m_row m_column m_below m_face m_worn m_lastBend) (g9_2 : gm_tx m_tapeMany m_textMany m_tape m_text m_names m_bends m_high m_to m_pileSize) (g9_3 : gm_pl m_planned m_planLine m_planWay) (hr_0 : rl_cr v_now_wrong v_now_worn v_now_last v_hasImage v_kept_wrong v_kept_worn v_kept_last m_wronged m_imageWronged m_worn m_lastBend) (e9 : fX9_top 700 x1 x2 m_rowsOf m_columnsOf m_textMany m_base m_at m_ends m_fault m_opened m_bentMany m_bentWrong m_moreWorn m_planned m_allWrong m_allWorn m_z m_limit m_shapeRows m_shapeColumns m_row m_column m_below m_face m_worn m_lastBend m_tape m_text m_names m_bends m_high m_to m_pileSize m_planLine m_planWay = some (r9, q_base, q_at, q_ends, q_fault, q_opened, q_bentMany, q_bentWrong, q_moreWorn, q_allWrong, q_allWorn, q_z, q_shapeRows, q_shapeColumns, q_row, q_column, q_below, q_face, q_worn, q_lastBend, q_names, q_bends, q_high, q_to, q_pileSize)) : rl_cr v_now_wrong v_now_worn v_now_last v_hasImage v_kept_wrong v_kept_worn v_kept_last m_wronged m_imageWronged q_worn q_lastBend := by
  have f9 := (wp_get (sg9_top g9_0 g9_1 g9_2 g9_3) e9).2
  obtain ⟨-, -, -, -, -, -, -, -, -, -, z10, z11, -⟩ := id g9_1
  exact cr_fr hr_0 z10 z11 f9.1 f9.2
theorem fk_beside_cr {x1 : Int32} {x2 : Int32} {v_now_wrong : Int32} {v_now_worn : List Int32} {v_now_last : List Int32} {v_hasImage : Bool} {v_kept_wrong : Int32} {v_kept_worn : List Int32} {v_kept_last : List Int32} {m_rowsOf : Int32} {m_columnsOf : Int32} {m_textMany : Int32} {m_base : Int32} {m_at : Int32} {m_ends : Int32} {m_fault : Int32} {m_opened : Int32} {m_bentMany : Int32} {m_bentWrong : Int32} {m_moreWorn : Int32} {m_planned : Int32} {m_allWrong : Int32} {m_allWorn : Int32} {m_z : Int32} {m_limit : List Int32} {m_shapeRows : List Int32} {m_shapeColumns : List Int32} {m_row : List Int32} {m_column : List Int32} {m_below : List Int32} {m_face : List Int32} {m_worn : List Int32} {m_lastBend : List Int32} {m_tape : List Int32} {m_text : List Int32} {m_names : List Int32} {m_bends : List Int32} {m_high : List Int32} {m_to : List Int32} {m_pileSize : List Int32} {m_planLine : List Int32} {m_planWay : List Int32} {m_keptMany : Int32} {m_done : Int32} {m_changeWas : List Int32} {m_changeIs : List Int32} {m_isKept : Bool} {m_imageRows : Int32} {m_imageColumns : Int32} {m_tapeMany : Int32} {m_wronged : Int32} {m_imageWronged : Int32} {r9 : Int32} {q_base : Int32} {q_at : Int32} {q_ends : Int32} {q_fault : Int32} {q_opened : Int32} {q_bentMany : Int32} {q_bentWrong : Int32} {q_moreWorn : Int32} {q_allWrong : Int32} {q_allWorn : Int32} {q_z : Int32} {q_shapeRows : List Int32} {q_shapeColumns : List Int32} {q_row : List Int32} {q_column : List Int32} {q_below : List Int32} {q_face : List Int32} {q_worn : List Int32} {q_lastBend : List Int32} {q_names : List Int32} {q_bends : List Int32} {q_high : List Int32} {q_to : List Int32} {q_pileSize : List Int32} (g9_0 : gm_ch m_keptMany m_done m_limit m_changeWas m_changeIs) (g9_1 : gm_sh m_rowsOf m_columnsOf m_isKept m_imageRows m_imageColumns m_shapeRows m_shapeColumns m_row m_column m_below m_face m_worn m_lastBend) (g9_2 : gm_tx m_tapeMany m_textMany m_tape m_text m_names m_bends m_high m_to m_pileSize) (g9_3 : gm_pl m_planned m_planLine m_planWay) (hr_0 : rl_cr v_now_wrong v_now_worn v_now_last v_hasImage v_kept_wrong v_kept_worn v_kept_last m_wronged m_imageWronged m_worn m_lastBend) (e9 : fX9_beside 700 x1 x2 m_rowsOf m_columnsOf m_textMany m_base m_at m_ends m_fault m_opened m_bentMany m_bentWrong m_moreWorn m_planned m_allWrong m_allWorn m_z m_limit m_shapeRows m_shapeColumns m_row m_column m_below m_face m_worn m_lastBend m_tape m_text m_names m_bends m_high m_to m_pileSize m_planLine m_planWay = some (r9, q_base, q_at, q_ends, q_fault, q_opened, q_bentMany, q_bentWrong, q_moreWorn, q_allWrong, q_allWorn, q_z, q_shapeRows, q_shapeColumns, q_row, q_column, q_below, q_face, q_worn, q_lastBend, q_names, q_bends, q_high, q_to, q_pileSize)) : rl_cr v_now_wrong v_now_worn v_now_last v_hasImage v_kept_wrong v_kept_worn v_kept_last m_wronged m_imageWronged q_worn q_lastBend := by
  have f9 := (wp_get (sg9_beside g9_0 g9_1 g9_2 g9_3) e9).2
  obtain ⟨-, -, -, -, -, -, -, -, -, -, z10, z11, -⟩ := id g9_1
  exact cr_fr hr_0 z10 z11 f9.1 f9.2
theorem fk_wished_cr {x1 : Int32} {x2 : Int32} {v_now_wrong : Int32} {v_now_worn : List Int32} {v_now_last : List Int32} {v_hasImage : Bool} {v_kept_wrong : Int32} {v_kept_worn : List Int32} {v_kept_last : List Int32} {m_rowsOf : Int32} {m_columnsOf : Int32} {m_textMany : Int32} {m_base : Int32} {m_at : Int32} {m_ends : Int32} {m_fault : Int32} {m_opened : Int32} {m_bentMany : Int32} {m_bentWrong : Int32} {m_moreWorn : Int32} {m_wishedField : Int32} {m_isFound : Bool} {m_bestWrong : Int32} {m_bestWorn : Int32} {m_bestMany : Int32} {m_limit : List Int32} {m_shapeRows : List Int32} {m_shapeColumns : List Int32} {m_row : List Int32} {m_column : List Int32} {m_below : List Int32} {m_face : List Int32} {m_worn : List Int32} {m_lastBend : List Int32} {m_tape : List Int32} {m_text : List Int32} {m_names : List Int32} {m_bends : List Int32} {m_high : List Int32} {m_to : List Int32} {m_pileSize : List Int32} {m_way1 : List Int32} {m_bestWay : List Int32} {m_keptMany : Int32} {m_done : Int32} {m_changeWas : List Int32} {m_changeIs : List Int32} {m_isKept : Bool} {m_imageRows : Int32} {m_imageColumns : Int32} {m_tapeMany : Int32} {m_wronged : Int32} {m_imageWronged : Int32} {r9 : Int32} {q_base : Int32} {q_at : Int32} {q_ends : Int32} {q_fault : Int32} {q_opened : Int32} {q_bentMany : Int32} {q_bentWrong : Int32} {q_moreWorn : Int32} {q_wishedField : Int32} {q_isFound : Bool} {q_bestWrong : Int32} {q_bestWorn : Int32} {q_bestMany : Int32} {q_shapeRows : List Int32} {q_shapeColumns : List Int32} {q_row : List Int32} {q_column : List Int32} {q_below : List Int32} {q_face : List Int32} {q_worn : List Int32} {q_lastBend : List Int32} {q_names : List Int32} {q_bends : List Int32} {q_high : List Int32} {q_to : List Int32} {q_pileSize : List Int32} {q_way1 : List Int32} {q_bestWay : List Int32} (g9_0 : gm_ch m_keptMany m_done m_limit m_changeWas m_changeIs) (g9_1 : gm_sh m_rowsOf m_columnsOf m_isKept m_imageRows m_imageColumns m_shapeRows m_shapeColumns m_row m_column m_below m_face m_worn m_lastBend) (g9_2 : gm_tx m_tapeMany m_textMany m_tape m_text m_names m_bends m_high m_to m_pileSize) (g9_3 : gm_se m_bestMany m_way1 m_bestWay) (hr_0 : rl_cr v_now_wrong v_now_worn v_now_last v_hasImage v_kept_wrong v_kept_worn v_kept_last m_wronged m_imageWronged m_worn m_lastBend) (e9 : fX9_wished 700 x1 x2 m_rowsOf m_columnsOf m_textMany m_base m_at m_ends m_fault m_opened m_bentMany m_bentWrong m_moreWorn m_wishedField m_isFound m_bestWrong m_bestWorn m_bestMany m_limit m_shapeRows m_shapeColumns m_row m_column m_below m_face m_worn m_lastBend m_tape m_text m_names m_bends m_high m_to m_pileSize m_way1 m_bestWay = some (r9, q_base, q_at, q_ends, q_fault, q_opened, q_bentMany, q_bentWrong, q_moreWorn, q_wishedField, q_isFound, q_bestWrong, q_bestWorn, q_bestMany, q_shapeRows, q_shapeColumns, q_row, q_column, q_below, q_face, q_worn, q_lastBend, q_names, q_bends, q_high, q_to, q_pileSize, q_way1, q_bestWay)) : rl_cr v_now_wrong v_now_worn v_now_last v_hasImage v_kept_wrong v_kept_worn v_kept_last m_wronged m_imageWronged q_worn q_lastBend := by
  have f9 := (wp_get (sg9_wished g9_0 g9_1 g9_2 g9_3) e9).2
  obtain ⟨-, -, -, -, -, -, -, -, -, -, z10, z11, -⟩ := id g9_1
  exact cr_fr hr_0 z10 z11 f9.1 f9.2
theorem fk_right_cr {x1 : Int32} {v_now_wrong : Int32} {v_now_worn : List Int32} {v_now_last : List Int32} {v_hasImage : Bool} {v_kept_wrong : Int32} {v_kept_worn : List Int32} {v_kept_last : List Int32} {m_rowsOf : Int32} {m_columnsOf : Int32} {m_textMany : Int32} {m_base : Int32} {m_at : Int32} {m_ends : Int32} {m_fault : Int32} {m_opened : Int32} {m_bentMany : Int32} {m_bentWrong : Int32} {m_moreWorn : Int32} {m_wishedField : Int32} {m_isFound : Bool} {m_bestWrong : Int32} {m_bestWorn : Int32} {m_bestMany : Int32} {m_limit : List Int32} {m_shapeRows : List Int32} {m_shapeColumns : List Int32} {m_row : List Int32} {m_column : List Int32} {m_below : List Int32} {m_face : List Int32} {m_worn : List Int32} {m_lastBend : List Int32} {m_tape : List Int32} {m_text : List Int32} {m_names : List Int32} {m_bends : List Int32} {m_high : List Int32} {m_to : List Int32} {m_pileSize : List Int32} {m_way1 : List Int32} {m_bestWay : List Int32} {m_keptMany : Int32} {m_done : Int32} {m_changeWas : List Int32} {m_changeIs : List Int32} {m_isKept : Bool} {m_imageRows : Int32} {m_imageColumns : Int32} {m_tapeMany : Int32} {m_wronged : Int32} {m_imageWronged : Int32} {r9 : Int32} {q_base : Int32} {q_at : Int32} {q_ends : Int32} {q_fault : Int32} {q_opened : Int32} {q_bentMany : Int32} {q_bentWrong : Int32} {q_moreWorn : Int32} {q_wishedField : Int32} {q_isFound : Bool} {q_bestWrong : Int32} {q_bestWorn : Int32} {q_bestMany : Int32} {q_shapeRows : List Int32} {q_shapeColumns : List Int32} {q_row : List Int32} {q_column : List Int32} {q_below : List Int32} {q_face : List Int32} {q_worn : List Int32} {q_lastBend : List Int32} {q_names : List Int32} {q_bends : List Int32} {q_high : List Int32} {q_to : List Int32} {q_pileSize : List Int32} {q_way1 : List Int32} {q_bestWay : List Int32} (g9_0 : gm_ch m_keptMany m_done m_limit m_changeWas m_changeIs) (g9_1 : gm_sh m_rowsOf m_columnsOf m_isKept m_imageRows m_imageColumns m_shapeRows m_shapeColumns m_row m_column m_below m_face m_worn m_lastBend) (g9_2 : gm_tx m_tapeMany m_textMany m_tape m_text m_names m_bends m_high m_to m_pileSize) (g9_3 : gm_se m_bestMany m_way1 m_bestWay) (hr_0 : rl_cr v_now_wrong v_now_worn v_now_last v_hasImage v_kept_wrong v_kept_worn v_kept_last m_wronged m_imageWronged m_worn m_lastBend) (e9 : fX9_right 700 x1 m_rowsOf m_columnsOf m_textMany m_base m_at m_ends m_fault m_opened m_bentMany m_bentWrong m_moreWorn m_wishedField m_isFound m_bestWrong m_bestWorn m_bestMany m_limit m_shapeRows m_shapeColumns m_row m_column m_below m_face m_worn m_lastBend m_tape m_text m_names m_bends m_high m_to m_pileSize m_way1 m_bestWay = some (r9, q_base, q_at, q_ends, q_fault, q_opened, q_bentMany, q_bentWrong, q_moreWorn, q_wishedField, q_isFound, q_bestWrong, q_bestWorn, q_bestMany, q_shapeRows, q_shapeColumns, q_row, q_column, q_below, q_face, q_worn, q_lastBend, q_names, q_bends, q_high, q_to, q_pileSize, q_way1, q_bestWay)) : rl_cr v_now_wrong v_now_worn v_now_last v_hasImage v_kept_wrong v_kept_worn v_kept_last m_wronged m_imageWronged q_worn q_lastBend := by
  have f9 := (wp_get (sg9_right g9_0 g9_1 g9_2 g9_3) e9).2
  obtain ⟨-, -, -, -, -, -, -, -, -, -, z10, z11, -⟩ := id g9_1
  exact cr_fr hr_0 z10 z11 f9.1 f9.2
theorem fk_wind_cr {x1 : Int32} {x2 : Int32} {x3 : Int32} {v_now_wrong : Int32} {v_now_worn : List Int32} {v_now_last : List Int32} {v_hasImage : Bool} {v_kept_wrong : Int32} {v_kept_worn : List Int32} {v_kept_last : List Int32} {m_rowsOf : Int32} {m_columnsOf : Int32} {m_textMany : Int32} {m_base : Int32} {m_at : Int32} {m_ends : Int32} {m_fault : Int32} {m_opened : Int32} {m_bentMany : Int32} {m_bentWrong : Int32} {m_moreWorn : Int32} {m_planned : Int32} {m_allWrong : Int32} {m_allWorn : Int32} {m_z : Int32} {m_limit : List Int32} {m_shapeRows : List Int32} {m_shapeColumns : List Int32} {m_row : List Int32} {m_column : List Int32} {m_below : List Int32} {m_face : List Int32} {m_worn : List Int32} {m_lastBend : List Int32} {m_tape : List Int32} {m_text : List Int32} {m_names : List Int32} {m_bends : List Int32} {m_high : List Int32} {m_to : List Int32} {m_pileSize : List Int32} {m_planLine : List Int32} {m_planWay : List Int32} {m_keptMany : Int32} {m_done : Int32} {m_changeWas : List Int32} {m_changeIs : List Int32} {m_isKept : Bool} {m_imageRows : Int32} {m_imageColumns : Int32} {m_tapeMany : Int32} {m_wronged : Int32} {m_imageWronged : Int32} {r9 : Int32} {q_base : Int32} {q_at : Int32} {q_ends : Int32} {q_fault : Int32} {q_opened : Int32} {q_bentMany : Int32} {q_bentWrong : Int32} {q_moreWorn : Int32} {q_allWrong : Int32} {q_allWorn : Int32} {q_z : Int32} {q_shapeRows : List Int32} {q_shapeColumns : List Int32} {q_row : List Int32} {q_column : List Int32} {q_below : List Int32} {q_face : List Int32} {q_worn : List Int32} {q_lastBend : List Int32} {q_names : List Int32} {q_bends : List Int32} {q_high : List Int32} {q_to : List Int32} {q_pileSize : List Int32} (g9_0 : gm_ch m_keptMany m_done m_limit m_changeWas m_changeIs) (g9_1 : gm_sh m_rowsOf m_columnsOf m_isKept m_imageRows m_imageColumns m_shapeRows m_shapeColumns m_row m_column m_below m_face m_worn m_lastBend) (g9_2 : gm_tx m_tapeMany m_textMany m_tape m_text m_names m_bends m_high m_to m_pileSize) (g9_3 : gm_pl m_planned m_planLine m_planWay) (hr_0 : rl_cr v_now_wrong v_now_worn v_now_last v_hasImage v_kept_wrong v_kept_worn v_kept_last m_wronged m_imageWronged m_worn m_lastBend) (e9 : fX9_wind 700 x1 x2 x3 m_rowsOf m_columnsOf m_textMany m_base m_at m_ends m_fault m_opened m_bentMany m_bentWrong m_moreWorn m_planned m_allWrong m_allWorn m_z m_limit m_shapeRows m_shapeColumns m_row m_column m_below m_face m_worn m_lastBend m_tape m_text m_names m_bends m_high m_to m_pileSize m_planLine m_planWay = some (r9, q_base, q_at, q_ends, q_fault, q_opened, q_bentMany, q_bentWrong, q_moreWorn, q_allWrong, q_allWorn, q_z, q_shapeRows, q_shapeColumns, q_row, q_column, q_below, q_face, q_worn, q_lastBend, q_names, q_bends, q_high, q_to, q_pileSize)) : rl_cr v_now_wrong v_now_worn v_now_last v_hasImage v_kept_wrong v_kept_worn v_kept_last m_wronged m_imageWronged q_worn q_lastBend := by
  have f9 := (wp_get (sg9_wind g9_0 g9_1 g9_2 g9_3) e9).2
  obtain ⟨-, -, -, -, -, -, -, -, -, -, z10, z11, -⟩ := id g9_1
  exact cr_fr hr_0 z10 z11 f9.1 f9.2
end
section
/-! Creases: crease, led -/
set_option maxHeartbeats 4000000 in
set_option maxRecDepth 20000 in
theorem rs_crease {x1 : Int32} {x2 : Int32} {v_now_rows : Int32} {v_now_cols : Int32} {v_now_worn : List Int32} {v_now_last : List Int32} {v_changes_value : Int32} {v_now_high : Int32} {v_now_wide : Int32} {v_now_rowOf : List Int32} {v_now_colOf : List Int32} {v_now_below : List Int32} {v_now_face : List Int32} {v_now_bend : List Int32} {v_now_tall : List Int32} {v_now_folds : Int32} {v_hasImage : Bool} {v_kept_rows : Int32} {v_kept_cols : Int32} {v_kept_high : Int32} {v_kept_wide : Int32} {v_kept_folds : Int32} {v_kept_rowOf : List Int32} {v_kept_colOf : List Int32} {v_kept_below : List Int32} {v_kept_face : List Int32} {v_changes_done : Int32} {v_changes_size : Int32} {v_changes_before : List Int32} {v_changes_after : List Int32} {v_now_wrong : Int32} {v_kept_wrong : Int32} {v_kept_worn : List Int32} {v_kept_last : List Int32} {m_rowsOf : Int32} {m_columnsOf : Int32} {m_limit : List Int32} {m_worn : List Int32} {m_lastBend : List Int32} {m_keptMany : Int32} {m_done : Int32} {m_changeWas : List Int32} {m_changeIs : List Int32} {m_isKept : Bool} {m_imageRows : Int32} {m_imageColumns : Int32} {m_shapeRows : List Int32} {m_shapeColumns : List Int32} {m_row : List Int32} {m_column : List Int32} {m_below : List Int32} {m_face : List Int32} {m_folded : Int32} {m_imageFolded : Int32} {m_wronged : Int32} {m_imageWronged : Int32} (g8_0 : gi_sh v_now_rows v_now_cols v_now_high v_now_wide v_now_rowOf v_now_colOf v_now_below v_now_face v_now_worn v_now_last v_now_bend v_now_tall) (g9_0 : gm_ch m_keptMany m_done m_limit m_changeWas m_changeIs) (g9_1 : gm_sh m_rowsOf m_columnsOf m_isKept m_imageRows m_imageColumns m_shapeRows m_shapeColumns m_row m_column m_below m_face m_worn m_lastBend) (hr_0 : rl_ge v_now_rows v_now_cols v_now_high v_now_wide v_now_folds v_now_rowOf v_now_colOf v_now_below v_now_face v_hasImage v_kept_rows v_kept_cols v_kept_high v_kept_wide v_kept_folds v_kept_rowOf v_kept_colOf v_kept_below v_kept_face m_rowsOf m_columnsOf m_folded m_isKept m_imageRows m_imageColumns m_imageFolded m_shapeRows m_shapeColumns m_row m_column m_below m_face) (hr_1 : rl_ch v_changes_value v_changes_done v_changes_size v_changes_before v_changes_after m_keptMany m_done m_limit m_changeWas m_changeIs) (hr_2 : rl_cr v_now_wrong v_now_worn v_now_last v_hasImage v_kept_wrong v_kept_worn v_kept_last m_wronged m_imageWronged m_worn m_lastBend) : ∃ (r : Int32), fX8_crease 700 x1 x2 v_now_rows v_now_cols v_now_worn v_now_last v_changes_value = some r ∧ fX9_crease 700 x1 x2 m_rowsOf m_columnsOf m_limit m_worn m_lastBend = some r ∧ rl_ge v_now_rows v_now_cols v_now_high v_now_wide v_now_folds v_now_rowOf v_now_colOf v_now_below v_now_face v_hasImage v_kept_rows v_kept_cols v_kept_high v_kept_wide v_kept_folds v_kept_rowOf v_kept_colOf v_kept_below v_kept_face m_rowsOf m_columnsOf m_folded m_isKept m_imageRows m_imageColumns m_imageFolded m_shapeRows m_shapeColumns m_row m_column m_below m_face ∧ rl_ch v_changes_value v_changes_done v_changes_size v_changes_before v_changes_after m_keptMany m_done m_limit m_changeWas m_changeIs ∧ rl_cr v_now_wrong v_now_worn v_now_last v_hasImage v_kept_wrong v_kept_worn v_kept_last m_wronged m_imageWronged m_worn m_lastBend := by
  obtain ⟨r8, e8, -⟩ := st8_crease (x1 := x1) (x2 := x2) (v_changes_value := v_changes_value) g8_0
  obtain ⟨r9, e9, -⟩ := st9_crease (x1 := x1) (x2 := x2)  g9_0 g9_1
  have k8 := wp_get (st8_crease g8_0) e8
  have k9 := wp_get (st9_crease g9_0 g9_1) e9
  obtain ⟨a0, a1, a2, a3, -⟩ := id g8_0
  obtain ⟨b1, b2, -⟩ := id hr_0
  obtain ⟨-, -, v3, -, -⟩ := id hr_1
  obtain ⟨-, s2, s3, -⟩ := id hr_2
  subst b1 b2
  have n0 : (0 : Int32).toInt = 0 := by decide
  have n1 : (1 : Int32).toInt = 1 := by decide
  have n2 : (2 : Int32).toInt = 2 := by decide
  have m0 : (0 : Int64).toInt = 0 := by decide
  have m2 : (2 : Int64).toInt = 2 := by decide
  have hf := i_fl a0 a1 a2 a3
  have hm : (m_rowsOf * m_columnsOf).toInt = ((m_rowsOf.toInt * m_columnsOf.toInt).toNat : Nat) := by omega
  have m32 : (m_rowsOf.toInt * m_columnsOf.toInt).toNat ≤ 32 := by omega
  have X : r9 = r8 := by
    have f8 := e8
    have f9 := e9
    unfold fX8_crease at f8
    unfold fX9_crease at f9
    by_cases c1 : x1 < 0
    · rw [if_pos c1] at f8 f9
      rw [← sm_i f8, ← sm_i f9]
    · have d1 := i_nlt c1
      rw [if_neg c1] at f8 f9
      have f9 := ck_x f9
      have hdv := i_divE (c := 10) (by decide) (by decide) (rfl : x1 / (10 : Int32) = _) (by omega)
      have hrm := i_remE (c := 10) (by decide) (by decide) (rfl : mm_rem x1 (10 : Int32) = _) (by omega)
      -- the reference's index
      generalize x1 / (10 : Int32) = y at *
      generalize mm_rem x1 (10 : Int32) = w at *
      have hxb : x1.toInt < 2147483648 := Int32.toInt_lt x1
      by_cases c2 : (1 : Int32) < w
      · have d2 := i_lt c2
        rw [if_pos c2] at f9
        rw [← sm_i f9]
        by_cases c3 : x2 < 0
        · rw [if_pos c3] at f8
          exact sm_i f8
        · rw [if_neg c3] at f8
          by_cases c4 : x2 ≤ (2 : Int32)
          · rw [if_pos c4] at f8
            have f8 := ck_x f8
            rw [nm_eq] at f8
            have f8 := ck_x f8
            rw [nm_eq] at f8
            obtain ⟨r, er, f8⟩ := mm_bd1s f8
            have hr : r = -1 := by
              unfold fX5_neighbour at er
              rw [hf_e, bs_1] at er
              by_cases g : 0 ≤ y.toInt ∧ y.toInt < (m_rowsOf * m_columnsOf).toInt
              · rw [decide_eq_true g, if_neg (by decide), if_neg (fun h => absurd (i_eq h) (by omega)), if_neg (fun h => absurd (i_eq h) (by omega))] at er
                exact (sm_i er).symm
              · rw [decide_eq_false g, if_pos rfl] at er
                exact (sm_i er).symm
            rw [hr, if_neg (by decide)] at f8
            exact sm_i f8
          · rw [if_neg c4] at f8
            exact sm_i f8
      · have d2 := i_nlt c2
        rw [if_neg c2] at f9
        have f9 := ck_x (ck_x f9)
        generalize h2y : (2 : Int32) * y = y2 at f8 f9
        have e2y := i_mulLE (c := 2) (by decide) h2y (by omega) (by omega)
        generalize hidx : y2 + w = x at f8 f9
        have ex := i_addE hidx (by omega) (by omega)
        obtain ⟨k, hk⟩ : ∃ k : Nat, x.toInt = k := ⟨x.toInt.toNat, by omega⟩
        have hkn : x.toInt.toNat = k := by omega
        obtain ⟨r6, e6, f9⟩ := mm_bd1s f9
        have h6 := ic_e (m := (m_rowsOf.toInt * m_columnsOf.toInt).toNat) hm (by omega) (by omega) m32 a0 a2 a3 hk (by omega) e6
        by_cases g : k / 2 < (m_rowsOf.toInt * m_columnsOf.toInt).toNat ∧ (if k % 2 = 0 then k / 2 % m_columnsOf.toInt.toNat < m_columnsOf.toInt.toNat - 1 else k / 2 + m_columnsOf.toInt.toNat < (m_rowsOf.toInt * m_columnsOf.toInt).toNat)
        · have gk := g.1
          rw [h6, decide_eq_true g, if_neg (by decide), wn_x, bs_1, i_64, m0, m2] at f9
          by_cases c3 : 0 ≤ x2.toInt ∧ x2.toInt ≤ 2
          · rw [decide_eq_true c3, if_neg (by decide)] at f9
            rw [if_neg (fun h => absurd (i_lt h) (by omega)), if_pos (Int32.le_iff_toInt_le.mpr (by omega))] at f8
            have f8 := ck_x f8
            rw [nm_eq] at f8
            have f8 := ck_x f8
            rw [nm_eq] at f8
            obtain ⟨r, er, f8⟩ := mm_bd1s f8
            obtain ⟨q6, -⟩ := nb_n (m := (m_rowsOf.toInt * m_columnsOf.toInt).toNat) (k := k) hm m32 a2 a3 (by omega) (by omega) er
            have hr := q6 g
            rw [if_pos (Int32.le_iff_toInt_le.mpr (by omega)), nm_eq, h2y, hidx] at f8
            have f9 := ck_x (ck_x f9)
            rw [nm_eq] at f9
            have w1 : mm_ig m_worn x = mm_ig v_now_worn x := by
              rw [ge_ig, ge_ig, hkn]
              have := s2 k (by omega)
              rw [Nat.mul_zero, Nat.zero_add] at this
              exact this
            have w2 : mm_ig m_lastBend x = mm_ig v_now_last x := by
              rw [ge_ig, ge_ig, hkn]
              have := s3 k (by omega)
              rw [Nat.mul_zero, Nat.zero_add] at this
              exact this
            by_cases c4 : x2 = 0
            · rw [if_pos c4] at f8 f9
              rw [← sm_i (ck_x f8), ← sm_i (ck_x f9)]
              exact w1
            · rw [if_neg c4] at f8 f9
              by_cases c5 : x2 = (1 : Int32)
              · rw [if_pos c5] at f8 f9
                rw [← sm_i (ck_x f8), ← sm_i (ck_x f9)]
                exact w2
              · rw [if_neg c5] at f8 f9
                have f8 := ck_x f8
                have f9 := ck_x (ck_x f9)
                have hl : mm_ig m_limit (0 : Int32) = v_changes_value := by rw [v3]; rfl
                rw [w1, hl] at f9
                by_cases c6 : mm_ig v_now_worn x < v_changes_value
                · rw [if_pos c6] at f8 f9
                  rw [← sm_i f8, ← sm_i f9]
                · rw [if_neg c6] at f8 f9
                  rw [← sm_i f8, ← sm_i f9]
          · rw [decide_eq_false c3, if_pos rfl] at f9
            rw [← sm_i f9]
            by_cases c4 : x2 < 0
            · rw [if_pos c4] at f8
              exact sm_i f8
            · have d4 := i_nlt c4
              rw [if_neg c4, if_neg (fun h => absurd (i_le h) (by omega))] at f8
              exact sm_i f8
        · rw [h6, decide_eq_false g, if_pos rfl] at f9
          rw [← sm_i f9]
          by_cases c4 : x2 < 0
          · rw [if_pos c4] at f8
            exact sm_i f8
          · rw [if_neg c4] at f8
            by_cases c5 : x2 ≤ (2 : Int32)
            · rw [if_pos c5] at f8
              have f8 := ck_x f8
              rw [nm_eq] at f8
              have f8 := ck_x f8
              rw [nm_eq] at f8
              obtain ⟨r, er, f8⟩ := mm_bd1s f8
              obtain ⟨-, q6⟩ := nb_n (m := (m_rowsOf.toInt * m_columnsOf.toInt).toNat) (k := k) hm m32 a2 a3 (by omega) (by omega) er
              rw [q6 g, if_neg (by decide)] at f8
              exact sm_i f8
            · rw [if_neg c5] at f8
              exact sm_i f8
  subst X
  exact ⟨_, e8, e9, hr_0, hr_1, hr_2⟩
set_option maxHeartbeats 4000000 in
set_option maxRecDepth 20000 in
theorem rs_led {x1 : Int32} {v_now_rows : Int32} {v_now_cols : Int32} {v_now_folds : Int32} {v_now_wrong : Int32} {v_now_worn : List Int32} {v_changes_value : Int32} {v_now_high : Int32} {v_now_wide : Int32} {v_now_rowOf : List Int32} {v_now_colOf : List Int32} {v_now_below : List Int32} {v_now_face : List Int32} {v_now_last : List Int32} {v_now_bend : List Int32} {v_now_tall : List Int32} {v_hasImage : Bool} {v_kept_rows : Int32} {v_kept_cols : Int32} {v_kept_high : Int32} {v_kept_wide : Int32} {v_kept_folds : Int32} {v_kept_rowOf : List Int32} {v_kept_colOf : List Int32} {v_kept_below : List Int32} {v_kept_face : List Int32} {v_changes_done : Int32} {v_changes_size : Int32} {v_changes_before : List Int32} {v_changes_after : List Int32} {v_kept_wrong : Int32} {v_kept_worn : List Int32} {v_kept_last : List Int32} {m_rowsOf : Int32} {m_columnsOf : Int32} {m_folded : Int32} {m_wronged : Int32} {m_limit : List Int32} {m_worn : List Int32} {m_keptMany : Int32} {m_done : Int32} {m_changeWas : List Int32} {m_changeIs : List Int32} {m_isKept : Bool} {m_imageRows : Int32} {m_imageColumns : Int32} {m_shapeRows : List Int32} {m_shapeColumns : List Int32} {m_row : List Int32} {m_column : List Int32} {m_below : List Int32} {m_face : List Int32} {m_lastBend : List Int32} {m_imageFolded : Int32} {m_imageWronged : Int32} (g8_0 : gi_sh v_now_rows v_now_cols v_now_high v_now_wide v_now_rowOf v_now_colOf v_now_below v_now_face v_now_worn v_now_last v_now_bend v_now_tall) (g9_0 : gm_ch m_keptMany m_done m_limit m_changeWas m_changeIs) (g9_1 : gm_sh m_rowsOf m_columnsOf m_isKept m_imageRows m_imageColumns m_shapeRows m_shapeColumns m_row m_column m_below m_face m_worn m_lastBend) (hr_0 : rl_ge v_now_rows v_now_cols v_now_high v_now_wide v_now_folds v_now_rowOf v_now_colOf v_now_below v_now_face v_hasImage v_kept_rows v_kept_cols v_kept_high v_kept_wide v_kept_folds v_kept_rowOf v_kept_colOf v_kept_below v_kept_face m_rowsOf m_columnsOf m_folded m_isKept m_imageRows m_imageColumns m_imageFolded m_shapeRows m_shapeColumns m_row m_column m_below m_face) (hr_1 : rl_ch v_changes_value v_changes_done v_changes_size v_changes_before v_changes_after m_keptMany m_done m_limit m_changeWas m_changeIs) (hr_2 : rl_cr v_now_wrong v_now_worn v_now_last v_hasImage v_kept_wrong v_kept_worn v_kept_last m_wronged m_imageWronged m_worn m_lastBend) : ∃ (r : Int32), fX8_led 700 x1 v_now_rows v_now_cols v_now_folds v_now_wrong v_now_worn v_changes_value = some r ∧ fX9_led 700 x1 m_rowsOf m_columnsOf m_folded m_wronged m_limit m_worn = some r ∧ rl_ge v_now_rows v_now_cols v_now_high v_now_wide v_now_folds v_now_rowOf v_now_colOf v_now_below v_now_face v_hasImage v_kept_rows v_kept_cols v_kept_high v_kept_wide v_kept_folds v_kept_rowOf v_kept_colOf v_kept_below v_kept_face m_rowsOf m_columnsOf m_folded m_isKept m_imageRows m_imageColumns m_imageFolded m_shapeRows m_shapeColumns m_row m_column m_below m_face ∧ rl_ch v_changes_value v_changes_done v_changes_size v_changes_before v_changes_after m_keptMany m_done m_limit m_changeWas m_changeIs ∧ rl_cr v_now_wrong v_now_worn v_now_last v_hasImage v_kept_wrong v_kept_worn v_kept_last m_wronged m_imageWronged m_worn m_lastBend := by
  obtain ⟨r8, e8, -⟩ := st8_led (x1 := x1) (v_now_folds := v_now_folds) (v_now_wrong := v_now_wrong) (v_changes_value := v_changes_value) g8_0
  obtain ⟨r9, e9, -⟩ := st9_led (x1 := x1) (v_folded := m_folded) (v_wronged := m_wronged) g9_0 g9_1
  have k8 := wp_get (st8_led g8_0) e8
  have k9 := wp_get (st9_led g9_0 g9_1) e9
  obtain ⟨a0, a1, a2, a3, -⟩ := id g8_0
  obtain ⟨b1, b2, b3, -⟩ := id hr_0
  obtain ⟨-, -, v3, -, -⟩ := id hr_1
  obtain ⟨s1, s2, s3, -⟩ := id hr_2
  have y0 : (0 : Int32).toInt.toNat = 0 := by decide
  have X : r9 = r8 := by
    have f8 := e8
    have f9 := e9
    unfold fX8_led at f8
    unfold fX9_led at f9
    by_cases c1 : x1 = 0
    · rw [if_pos c1] at f8 f9
      rw [← sm_i f8, ← sm_i f9, b3]
    · rw [if_neg c1] at f8 f9
      by_cases c2 : x1 = (1 : Int32)
      · rw [if_pos c2] at f8 f9
        rw [← sm_i f8, ← sm_i f9, s1]
      · rw [if_neg c2] at f8 f9
        by_cases c3 : x1 = (2 : Int32)
        · rw [if_pos c3] at f8 f9
          obtain ⟨r, er, f8⟩ := mm_bd1s f8
          obtain ⟨r', er', f9⟩ := mm_bd1s f9
          rw [b1, b2] at er'
          have q := tr_n a0 a1 a2 a3 (by decide) (by decide) (by rw [v3]; rfl) (by rw [y0]; exact s2) er er'
          rw [← sm_i f8, ← sm_i f9, q]
        · rw [if_neg c3] at f8 f9
          rw [← sm_i f8, ← sm_i f9]
  subst X
  exact ⟨_, e8, e9, hr_0, hr_1, hr_2⟩
end
section
/-! The law's loop: where the script is at a place, over every state that keeps the invariants -/
def lw_St (p : Program) (l : Launch) (e : Env) (s : State) (m : MethodId) (below : List Frame) (meth : Method) (c : Code) (D : va_G) (cI cL cS cH : ClassId) (bb : Nat) (a b : Nat → Nat) (cells slots : Nat) (Q : State → Prop) (pc : Nat) (ls : Array Slot) : Prop := ∀ (v_hasImage : Bool) (v_now_rows : Int32) (v_now_cols : Int32) (v_now_high : Int32) (v_now_wide : Int32) (v_now_folds : Int32) (v_now_wrong : Int32) (v_now_more : Int32) (v_now_rowOf : List Int32) (v_now_colOf : List Int32) (v_now_below : List Int32) (v_now_face : List Int32) (v_now_worn : List Int32) (v_now_last : List Int32) (v_now_bend : List Int32) (v_now_tall : List Int32) (v_kept_rows : Int32) (v_kept_cols : Int32) (v_kept_high : Int32) (v_kept_wide : Int32) (v_kept_folds : Int32) (v_kept_wrong : Int32) (v_kept_more : Int32) (v_kept_rowOf : List Int32) (v_kept_colOf : List Int32) (v_kept_below : List Int32) (v_kept_face : List Int32) (v_kept_worn : List Int32) (v_kept_last : List Int32) (v_kept_bend : List Int32) (v_kept_tall : List Int32) (v_wearing_size : Int32) (v_wearing_stepCount : Int32) (v_wearing_draftCount : Int32) (v_wearing_place : Int32) (v_wearing_fault : Int32) (v_wearing_stacked : Int32) (v_wearing_tape : List Int32) (v_wearing_steps : List Int32) (v_wearing_draft : List Int32) (v_wearing_stack : List Int32) (v_planned_size : Int32) (v_planned_trial_rows : Int32) (v_planned_trial_cols : Int32) (v_planned_trial_high : Int32) (v_planned_trial_wide : Int32) (v_planned_trial_folds : Int32) (v_planned_trial_wrong : Int32) (v_planned_trial_more : Int32) (v_planned_trial_rowOf : List Int32) (v_planned_trial_colOf : List Int32) (v_planned_trial_below : List Int32) (v_planned_trial_face : List Int32) (v_planned_trial_worn : List Int32) (v_planned_trial_last : List Int32) (v_planned_trial_bend : List Int32) (v_planned_trial_tall : List Int32) (v_planned_lines : List Int32) (v_planned_ways : List Int32) (v_search_found : Bool) (v_search_wrong : Int32) (v_search_more : Int32) (v_search_folds : Int32) (v_search_wanted : Int32) (v_search_levels0_rows : Int32) (v_search_levels0_cols : Int32) (v_search_levels0_high : Int32) (v_search_levels0_wide : Int32) (v_search_levels0_folds : Int32) (v_search_levels0_wrong : Int32) (v_search_levels0_more : Int32) (v_search_levels0_rowOf : List Int32) (v_search_levels0_colOf : List Int32) (v_search_levels0_below : List Int32) (v_search_levels0_face : List Int32) (v_search_levels0_worn : List Int32) (v_search_levels0_last : List Int32) (v_search_levels0_bend : List Int32) (v_search_levels0_tall : List Int32) (v_search_levels1_rows : Int32) (v_search_levels1_cols : Int32) (v_search_levels1_high : Int32) (v_search_levels1_wide : Int32) (v_search_levels1_folds : Int32) (v_search_levels1_wrong : Int32) (v_search_levels1_more : Int32) (v_search_levels1_rowOf : List Int32) (v_search_levels1_colOf : List Int32) (v_search_levels1_below : List Int32) (v_search_levels1_face : List Int32) (v_search_levels1_worn : List Int32) (v_search_levels1_last : List Int32) (v_search_levels1_bend : List Int32) (v_search_levels1_tall : List Int32) (v_search_levels2_rows : Int32) (v_search_levels2_cols : Int32) (v_search_levels2_high : Int32) (v_search_levels2_wide : Int32) (v_search_levels2_folds : Int32) (v_search_levels2_wrong : Int32) (v_search_levels2_more : Int32) (v_search_levels2_rowOf : List Int32) (v_search_levels2_colOf : List Int32) (v_search_levels2_below : List Int32) (v_search_levels2_face : List Int32) (v_search_levels2_worn : List Int32) (v_search_levels2_last : List Int32) (v_search_levels2_bend : List Int32) (v_search_levels2_tall : List Int32) (v_search_levels3_rows : Int32) (v_search_levels3_cols : Int32) (v_search_levels3_high : Int32) (v_search_levels3_wide : Int32) (v_search_levels3_folds : Int32) (v_search_levels3_wrong : Int32) (v_search_levels3_more : Int32) (v_search_levels3_rowOf : List Int32) (v_search_levels3_colOf : List Int32) (v_search_levels3_below : List Int32) (v_search_levels3_face : List Int32) (v_search_levels3_worn : List Int32) (v_search_levels3_last : List Int32) (v_search_levels3_bend : List Int32) (v_search_levels3_tall : List Int32) (v_search_path : List Int32) (v_search_best : List Int32) (v_strip_list : List Int32) (v_strip_found : List Int32) (v_strip_at : List Int32) (v_changes_value : Int32) (v_changes_done : Int32) (v_changes_size : Int32) (v_changes_before : List Int32) (v_changes_after : List Int32) (v_foldings_size : Int32) (v_foldings_ran : Int32) (v_foldings_number : Int32) (v_foldings_kinds : List Int32) (v_foldings_trace : List Int32) (v_shelves0_holds : Int32) (v_shelves0_body : Int32) (v_shelves0_sort : Int32) (v_shelves0_size : Int32) (v_shelves0_items : List Int64) (v_shelves1_holds : Int32) (v_shelves1_body : Int32) (v_shelves1_sort : Int32) (v_shelves1_size : Int32) (v_shelves1_items : List Int64) (v_shelves2_holds : Int32) (v_shelves2_body : Int32) (v_shelves2_sort : Int32) (v_shelves2_size : Int32) (v_shelves2_items : List Int64) (v_shelves3_holds : Int32) (v_shelves3_body : Int32) (v_shelves3_sort : Int32) (v_shelves3_size : Int32) (v_shelves3_items : List Int64) (v_shelves4_holds : Int32) (v_shelves4_body : Int32) (v_shelves4_sort : Int32) (v_shelves4_size : Int32) (v_shelves4_items : List Int64) (v_shelves5_holds : Int32) (v_shelves5_body : Int32) (v_shelves5_sort : Int32) (v_shelves5_size : Int32) (v_shelves5_items : List Int64) (m_keptMany : Int32) (m_done : Int32) (m_rowsOf : Int32) (m_columnsOf : Int32) (m_folded : Int32) (m_wronged : Int32) (m_tapeMany : Int32) (m_textMany : Int32) (m_base : Int32) (m_at : Int32) (m_ends : Int32) (m_fault : Int32) (m_opened : Int32) (m_bentMany : Int32) (m_bentWrong : Int32) (m_moreWorn : Int32) (m_planned : Int32) (m_allWrong : Int32) (m_allWorn : Int32) (m_z : Int32) (m_wishedField : Int32) (m_isFound : Bool) (m_bestWrong : Int32) (m_bestWorn : Int32) (m_bestMany : Int32) (m_soughtBy : Int32) (m_sought : Int32) (m_soughtAt : Int32) (m_foundMany : Int32) (m_foundOrder : Int32) (m_isKept : Bool) (m_imageRows : Int32) (m_imageColumns : Int32) (m_imageFolded : Int32) (m_imageWronged : Int32) (m_bodies : Int32) (m_ran : Int32) (m_ownKind : Int32) (m_ownNumber : Int32) (m_limit : List Int32) (m_changeWas : List Int32) (m_changeIs : List Int32) (m_shapeRows : List Int32) (m_shapeColumns : List Int32) (m_row : List Int32) (m_column : List Int32) (m_below : List Int32) (m_face : List Int32) (m_worn : List Int32) (m_lastBend : List Int32) (m_tape : List Int32) (m_text : List Int32) (m_names : List Int32) (m_bends : List Int32) (m_high : List Int32) (m_to : List Int32) (m_pileSize : List Int32) (m_planLine : List Int32) (m_planWay : List Int32) (m_way1 : List Int32) (m_bestWay : List Int32) (m_order1 : List Int32) (m_placeIn : List Int32) (m_bodyKind : List Int32) (m_trace : List Int32) (m_shelf : List Int32) (m_many : List Int32) (m_items : List Int64) (m_carried : List Int64) (H : Heap) (locs : List Loc), gi_sh v_now_rows v_now_cols v_now_high v_now_wide v_now_rowOf v_now_colOf v_now_below v_now_face v_now_worn v_now_last v_now_bend v_now_tall → gi_ch v_changes_done v_changes_size v_changes_before v_changes_after → gi_la v_wearing_size v_wearing_stepCount v_wearing_draftCount v_wearing_tape v_wearing_steps v_wearing_draft v_wearing_stack → gi_pl v_planned_size v_planned_lines v_planned_ways → gi_sf v_shelves0_size v_shelves0_items → gi_sf v_shelves1_size v_shelves1_items → gi_sf v_shelves2_size v_shelves2_items → gi_sf v_shelves3_size v_shelves3_items → gi_sf v_shelves4_size v_shelves4_items → gi_sf v_shelves5_size v_shelves5_items → gi_sh v_planned_trial_rows v_planned_trial_cols v_planned_trial_high v_planned_trial_wide v_planned_trial_rowOf v_planned_trial_colOf v_planned_trial_below v_planned_trial_face v_planned_trial_worn v_planned_trial_last v_planned_trial_bend v_planned_trial_tall → gi_se v_search_folds v_search_path v_search_best → gi_sh v_search_levels0_rows v_search_levels0_cols v_search_levels0_high v_search_levels0_wide v_search_levels0_rowOf v_search_levels0_colOf v_search_levels0_below v_search_levels0_face v_search_levels0_worn v_search_levels0_last v_search_levels0_bend v_search_levels0_tall → gi_sh v_search_levels1_rows v_search_levels1_cols v_search_levels1_high v_search_levels1_wide v_search_levels1_rowOf v_search_levels1_colOf v_search_levels1_below v_search_levels1_face v_search_levels1_worn v_search_levels1_last v_search_levels1_bend v_search_levels1_tall → gi_sh v_search_levels2_rows v_search_levels2_cols v_search_levels2_high v_search_levels2_wide v_search_levels2_rowOf v_search_levels2_colOf v_search_levels2_below v_search_levels2_face v_search_levels2_worn v_search_levels2_last v_search_levels2_bend v_search_levels2_tall → gi_sh v_search_levels3_rows v_search_levels3_cols v_search_levels3_high v_search_levels3_wide v_search_levels3_rowOf v_search_levels3_colOf v_search_levels3_below v_search_levels3_face v_search_levels3_worn v_search_levels3_last v_search_levels3_bend v_search_levels3_tall → gi_st v_strip_at v_strip_list v_strip_found → gi_sh v_kept_rows v_kept_cols v_kept_high v_kept_wide v_kept_rowOf v_kept_colOf v_kept_below v_kept_face v_kept_worn v_kept_last v_kept_bend v_kept_tall → gi_fo v_foldings_size v_foldings_kinds v_foldings_trace → gm_ch m_keptMany m_done m_limit m_changeWas m_changeIs → gm_sh m_rowsOf m_columnsOf m_isKept m_imageRows m_imageColumns m_shapeRows m_shapeColumns m_row m_column m_below m_face m_worn m_lastBend → gm_tx m_tapeMany m_textMany m_tape m_text m_names m_bends m_high m_to m_pileSize → gm_pl m_planned m_planLine m_planWay → gm_se m_bestMany m_way1 m_bestWay → gm_or m_order1 m_placeIn → gm_bo m_bodies m_bodyKind m_trace → gm_sf m_shelf m_many m_items m_carried → rl_ge v_now_rows v_now_cols v_now_high v_now_wide v_now_folds v_now_rowOf v_now_colOf v_now_below v_now_face v_hasImage v_kept_rows v_kept_cols v_kept_high v_kept_wide v_kept_folds v_kept_rowOf v_kept_colOf v_kept_below v_kept_face m_rowsOf m_columnsOf m_folded m_isKept m_imageRows m_imageColumns m_imageFolded m_shapeRows m_shapeColumns m_row m_column m_below m_face → rl_ch v_changes_value v_changes_done v_changes_size v_changes_before v_changes_after m_keptMany m_done m_limit m_changeWas m_changeIs → rl_tp v_wearing_size v_wearing_tape m_tapeMany m_tape → rl_lw v_wearing_stepCount v_wearing_steps m_textMany m_text → rl_cr v_now_wrong v_now_worn v_now_last v_hasImage v_kept_wrong v_kept_worn v_kept_last m_wronged m_imageWronged m_worn m_lastBend → va_P D mm_cl (wd_X8 cI cL cS cH a v_hasImage v_now_rows v_now_cols v_now_high v_now_wide v_now_folds v_now_wrong v_now_more v_now_rowOf v_now_colOf v_now_below v_now_face v_now_worn v_now_last v_now_bend v_now_tall v_kept_rows v_kept_cols v_kept_high v_kept_wide v_kept_folds v_kept_wrong v_kept_more v_kept_rowOf v_kept_colOf v_kept_below v_kept_face v_kept_worn v_kept_last v_kept_bend v_kept_tall v_wearing_size v_wearing_stepCount v_wearing_draftCount v_wearing_place v_wearing_fault v_wearing_stacked v_wearing_tape v_wearing_steps v_wearing_draft v_wearing_stack v_planned_size v_planned_trial_rows v_planned_trial_cols v_planned_trial_high v_planned_trial_wide v_planned_trial_folds v_planned_trial_wrong v_planned_trial_more v_planned_trial_rowOf v_planned_trial_colOf v_planned_trial_below v_planned_trial_face v_planned_trial_worn v_planned_trial_last v_planned_trial_bend v_planned_trial_tall v_planned_lines v_planned_ways v_search_found v_search_wrong v_search_more v_search_folds v_search_wanted v_search_levels0_rows v_search_levels0_cols v_search_levels0_high v_search_levels0_wide v_search_levels0_folds v_search_levels0_wrong v_search_levels0_more v_search_levels0_rowOf v_search_levels0_colOf v_search_levels0_below v_search_levels0_face v_search_levels0_worn v_search_levels0_last v_search_levels0_bend v_search_levels0_tall v_search_levels1_rows v_search_levels1_cols v_search_levels1_high v_search_levels1_wide v_search_levels1_folds v_search_levels1_wrong v_search_levels1_more v_search_levels1_rowOf v_search_levels1_colOf v_search_levels1_below v_search_levels1_face v_search_levels1_worn v_search_levels1_last v_search_levels1_bend v_search_levels1_tall v_search_levels2_rows v_search_levels2_cols v_search_levels2_high v_search_levels2_wide v_search_levels2_folds v_search_levels2_wrong v_search_levels2_more v_search_levels2_rowOf v_search_levels2_colOf v_search_levels2_below v_search_levels2_face v_search_levels2_worn v_search_levels2_last v_search_levels2_bend v_search_levels2_tall v_search_levels3_rows v_search_levels3_cols v_search_levels3_high v_search_levels3_wide v_search_levels3_folds v_search_levels3_wrong v_search_levels3_more v_search_levels3_rowOf v_search_levels3_colOf v_search_levels3_below v_search_levels3_face v_search_levels3_worn v_search_levels3_last v_search_levels3_bend v_search_levels3_tall v_search_path v_search_best v_strip_list v_strip_found v_strip_at v_changes_value v_changes_done v_changes_size v_changes_before v_changes_after v_foldings_size v_foldings_ran v_foldings_number v_foldings_kinds v_foldings_trace v_shelves0_holds v_shelves0_body v_shelves0_sort v_shelves0_size v_shelves0_items v_shelves1_holds v_shelves1_body v_shelves1_sort v_shelves1_size v_shelves1_items v_shelves2_holds v_shelves2_body v_shelves2_sort v_shelves2_size v_shelves2_items v_shelves3_holds v_shelves3_body v_shelves3_sort v_shelves3_size v_shelves3_items v_shelves4_holds v_shelves4_body v_shelves4_sort v_shelves4_size v_shelves4_items v_shelves5_holds v_shelves5_body v_shelves5_sort v_shelves5_size v_shelves5_items ++ wd_X9 cI cL cS cH b m_keptMany m_done m_rowsOf m_columnsOf m_folded m_wronged m_tapeMany m_textMany m_base m_at m_ends m_fault m_opened m_bentMany m_bentWrong m_moreWorn m_planned m_allWrong m_allWorn m_z m_wishedField m_isFound m_bestWrong m_bestWorn m_bestMany m_soughtBy m_sought m_soughtAt m_foundMany m_foundOrder m_isKept m_imageRows m_imageColumns m_imageFolded m_imageWronged m_bodies m_ran m_ownKind m_ownNumber m_limit m_changeWas m_changeIs m_shapeRows m_shapeColumns m_row m_column m_below m_face m_worn m_lastBend m_tape m_text m_names m_bends m_high m_to m_pileSize m_planLine m_planWay m_way1 m_bestWay m_order1 m_placeIn m_bodyKind m_trace m_shelf m_many m_items m_carried) H → va_D (fun q => s.heap.size ≤ q) (wd_X8 cI cL cS cH a v_hasImage v_now_rows v_now_cols v_now_high v_now_wide v_now_folds v_now_wrong v_now_more v_now_rowOf v_now_colOf v_now_below v_now_face v_now_worn v_now_last v_now_bend v_now_tall v_kept_rows v_kept_cols v_kept_high v_kept_wide v_kept_folds v_kept_wrong v_kept_more v_kept_rowOf v_kept_colOf v_kept_below v_kept_face v_kept_worn v_kept_last v_kept_bend v_kept_tall v_wearing_size v_wearing_stepCount v_wearing_draftCount v_wearing_place v_wearing_fault v_wearing_stacked v_wearing_tape v_wearing_steps v_wearing_draft v_wearing_stack v_planned_size v_planned_trial_rows v_planned_trial_cols v_planned_trial_high v_planned_trial_wide v_planned_trial_folds v_planned_trial_wrong v_planned_trial_more v_planned_trial_rowOf v_planned_trial_colOf v_planned_trial_below v_planned_trial_face v_planned_trial_worn v_planned_trial_last v_planned_trial_bend v_planned_trial_tall v_planned_lines v_planned_ways v_search_found v_search_wrong v_search_more v_search_folds v_search_wanted v_search_levels0_rows v_search_levels0_cols v_search_levels0_high v_search_levels0_wide v_search_levels0_folds v_search_levels0_wrong v_search_levels0_more v_search_levels0_rowOf v_search_levels0_colOf v_search_levels0_below v_search_levels0_face v_search_levels0_worn v_search_levels0_last v_search_levels0_bend v_search_levels0_tall v_search_levels1_rows v_search_levels1_cols v_search_levels1_high v_search_levels1_wide v_search_levels1_folds v_search_levels1_wrong v_search_levels1_more v_search_levels1_rowOf v_search_levels1_colOf v_search_levels1_below v_search_levels1_face v_search_levels1_worn v_search_levels1_last v_search_levels1_bend v_search_levels1_tall v_search_levels2_rows v_search_levels2_cols v_search_levels2_high v_search_levels2_wide v_search_levels2_folds v_search_levels2_wrong v_search_levels2_more v_search_levels2_rowOf v_search_levels2_colOf v_search_levels2_below v_search_levels2_face v_search_levels2_worn v_search_levels2_last v_search_levels2_bend v_search_levels2_tall v_search_levels3_rows v_search_levels3_cols v_search_levels3_high v_search_levels3_wide v_search_levels3_folds v_search_levels3_wrong v_search_levels3_more v_search_levels3_rowOf v_search_levels3_colOf v_search_levels3_below v_search_levels3_face v_search_levels3_worn v_search_levels3_last v_search_levels3_bend v_search_levels3_tall v_search_path v_search_best v_strip_list v_strip_found v_strip_at v_changes_value v_changes_done v_changes_size v_changes_before v_changes_after v_foldings_size v_foldings_ran v_foldings_number v_foldings_kinds v_foldings_trace v_shelves0_holds v_shelves0_body v_shelves0_sort v_shelves0_size v_shelves0_items v_shelves1_holds v_shelves1_body v_shelves1_sort v_shelves1_size v_shelves1_items v_shelves2_holds v_shelves2_body v_shelves2_sort v_shelves2_size v_shelves2_items v_shelves3_holds v_shelves3_body v_shelves3_sort v_shelves3_size v_shelves3_items v_shelves4_holds v_shelves4_body v_shelves4_sort v_shelves4_size v_shelves4_items v_shelves5_holds v_shelves5_body v_shelves5_sort v_shelves5_size v_shelves5_items ++ wd_X9 cI cL cS cH b m_keptMany m_done m_rowsOf m_columnsOf m_folded m_wronged m_tapeMany m_textMany m_base m_at m_ends m_fault m_opened m_bentMany m_bentWrong m_moreWorn m_planned m_allWrong m_allWorn m_z m_wishedField m_isFound m_bestWrong m_bestWorn m_bestMany m_soughtBy m_sought m_soughtAt m_foundMany m_foundOrder m_isKept m_imageRows m_imageColumns m_imageFolded m_imageWronged m_bodies m_ran m_ownKind m_ownNumber m_limit m_changeWas m_changeIs m_shapeRows m_shapeColumns m_row m_column m_below m_face m_worn m_lastBend m_tape m_text m_names m_bends m_high m_to m_pileSize m_planLine m_planWay m_way1 m_bestWay m_order1 m_placeIn m_bodyKind m_trace m_shelf m_many m_items m_carried) → va_S (fun q => s.heap.size ≤ q) s.heap H locs → W p l e room_1 s m #[Value.ref bb] below meth c H locs cells slots Q (F0 m pc ls [])
set_option maxHeartbeats 8000000 in
set_option maxRecDepth 100000 in
/-- the law's end -/
theorem law_out {p : Program} {l : Launch} {e : Env} {s : State} {m : MethodId} {below : List Frame} {meth : Method} {c : Code} {bb L : Nat} {xs : Nat → Int32} (C0 : lw_At p s m meth c bb L xs) {H : Heap} {locs : List Loc} {ls : Array Slot} {cells slots : Nat} (hc1 : cells ≤ 600000) (hc2 : slots ≤ 7302250) (hS : va_S (fun q => s.heap.size ≤ q) s.heap H locs) : W p l e room_1 s m #[Value.ref bb] below meth c H locs cells slots (lw_Z below #[Value.ref bb] s) (F0 m 1397 ls []) := by
  obtain ⟨hx, hb, hr, hml, hown, hts, hX, hbl, hlocks, hgv⟩ := C0
  refine lv_iconst (v := 1) hx hb dL_law_1397 (by decide) ?_
  refine va_forget (fun q hq => hS.2.2 q hq) ?_
  refine W.widen (k := 600000) (n := 7302250) hc1 hc2 ?_
  exact lw_ret hx hb hr hlocks dL_law_1398
theorem lw_in {x : Int32} {L : Nat} {z : Int} (h : x.toInt = z) (h0 : 0 ≤ z) (h1 : z < L) : vp_in x L := by
  unfold vp_in
  have n0 : (0 : Int32).toInt = 0 := by decide
  rintro (k | k)
  · rw [Int32.lt_iff_toInt_lt] at k; omega
  · have : L ≤ x.toInt.toNat := k
    omega
end
section
/-! The law's cases, over every state -/
set_option maxHeartbeats 8000000 in
set_option maxRecDepth 100000 in
theorem ls_0 {p : Program} {l : Launch} {e : Env} {s : State} {m : MethodId} {below : List Frame} {meth : Method} {c : Code} {D : va_G} {cI cL cS cH : ClassId} {bb : Nat} {a b : Nat → Nat} {cells slots : Nat} {Q : State → Prop} {L : Nat} {xs : Nat → Int32} {x3 : Int32} {ls : Array Slot} (C0 : mm_Cx p s m #[Value.ref bb] meth c RL code 4 ret D (mm_T cI cL cS cH) (fun q => s.heap.size ≤ q)) (hX : va_X bb L xs s s.heap) (hbl : bb < s.heap.size) (hi_1 : vp_in (x3 + (1 : Int32)) L) (hc1 : cells ≤ room_1.cells) (hc2 : slots ≤ room_1.slots) (hl : lv_has ls 4 [(0, .ref bb), (1, .ref (a 0)), (2, .ref (b 0)), (3, .int x3)]) (K : lw_St p l e s m below meth c D cI cL cS cH bb a b cells slots Q 1391 ls) : lw_St p l e s m below meth c D cI cL cS cH bb a b cells slots Q 204 ls := by
  intro v_hasImage v_now_rows v_now_cols v_now_high v_now_wide v_now_folds v_now_wrong v_now_more v_now_rowOf v_now_colOf v_now_below v_now_face v_now_worn v_now_last v_now_bend v_now_tall v_kept_rows v_kept_cols v_kept_high v_kept_wide v_kept_folds v_kept_wrong v_kept_more v_kept_rowOf v_kept_colOf v_kept_below v_kept_face v_kept_worn v_kept_last v_kept_bend v_kept_tall v_wearing_size v_wearing_stepCount v_wearing_draftCount v_wearing_place v_wearing_fault v_wearing_stacked v_wearing_tape v_wearing_steps v_wearing_draft v_wearing_stack v_planned_size v_planned_trial_rows v_planned_trial_cols v_planned_trial_high v_planned_trial_wide v_planned_trial_folds v_planned_trial_wrong v_planned_trial_more v_planned_trial_rowOf v_planned_trial_colOf v_planned_trial_below v_planned_trial_face v_planned_trial_worn v_planned_trial_last v_planned_trial_bend v_planned_trial_tall v_planned_lines v_planned_ways v_search_found v_search_wrong v_search_more v_search_folds v_search_wanted v_search_levels0_rows v_search_levels0_cols v_search_levels0_high v_search_levels0_wide v_search_levels0_folds v_search_levels0_wrong v_search_levels0_more v_search_levels0_rowOf v_search_levels0_colOf v_search_levels0_below v_search_levels0_face v_search_levels0_worn v_search_levels0_last v_search_levels0_bend v_search_levels0_tall v_search_levels1_rows v_search_levels1_cols v_search_levels1_high v_search_levels1_wide v_search_levels1_folds v_search_levels1_wrong v_search_levels1_more v_search_levels1_rowOf v_search_levels1_colOf v_search_levels1_below v_search_levels1_face v_search_levels1_worn v_search_levels1_last v_search_levels1_bend v_search_levels1_tall v_search_levels2_rows v_search_levels2_cols v_search_levels2_high v_search_levels2_wide v_search_levels2_folds v_search_levels2_wrong v_search_levels2_more v_search_levels2_rowOf v_search_levels2_colOf v_search_levels2_below v_search_levels2_face v_search_levels2_worn v_search_levels2_last v_search_levels2_bend v_search_levels2_tall v_search_levels3_rows v_search_levels3_cols v_search_levels3_high v_search_levels3_wide v_search_levels3_folds v_search_levels3_wrong v_search_levels3_more v_search_levels3_rowOf v_search_levels3_colOf v_search_levels3_below v_search_levels3_face v_search_levels3_worn v_search_levels3_last v_search_levels3_bend v_search_levels3_tall v_search_path v_search_best v_strip_list v_strip_found v_strip_at v_changes_value v_changes_done v_changes_size v_changes_before v_changes_after v_foldings_size v_foldings_ran v_foldings_number v_foldings_kinds v_foldings_trace v_shelves0_holds v_shelves0_body v_shelves0_sort v_shelves0_size v_shelves0_items v_shelves1_holds v_shelves1_body v_shelves1_sort v_shelves1_size v_shelves1_items v_shelves2_holds v_shelves2_body v_shelves2_sort v_shelves2_size v_shelves2_items v_shelves3_holds v_shelves3_body v_shelves3_sort v_shelves3_size v_shelves3_items v_shelves4_holds v_shelves4_body v_shelves4_sort v_shelves4_size v_shelves4_items v_shelves5_holds v_shelves5_body v_shelves5_sort v_shelves5_size v_shelves5_items m_keptMany m_done m_rowsOf m_columnsOf m_folded m_wronged m_tapeMany m_textMany m_base m_at m_ends m_fault m_opened m_bentMany m_bentWrong m_moreWorn m_planned m_allWrong m_allWorn m_z m_wishedField m_isFound m_bestWrong m_bestWorn m_bestMany m_soughtBy m_sought m_soughtAt m_foundMany m_foundOrder m_isKept m_imageRows m_imageColumns m_imageFolded m_imageWronged m_bodies m_ran m_ownKind m_ownNumber m_limit m_changeWas m_changeIs m_shapeRows m_shapeColumns m_row m_column m_below m_face m_worn m_lastBend m_tape m_text m_names m_bends m_high m_to m_pileSize m_planLine m_planWay m_way1 m_bestWay m_order1 m_placeIn m_bodyKind m_trace m_shelf m_many m_items m_carried H locs u_0 u_1 u_2 u_3 u_4 u_5 u_6 u_7 u_8 u_9 u_10 u_11 u_12 u_13 u_14 u_15 u_16 u_17 u_18 t_0 t_1 t_2 t_3 t_4 t_5 t_6 t_7 hr_0 hr_1 hr_2 hr_3 hr_4 hP hD hS
  obtain ⟨r8, p_now_rows, p_now_cols, p_now_high, p_now_wide, p_now_folds, p_now_wrong, p_now_more, p_now_rowOf, p_now_colOf, p_now_below, p_now_face, p_now_worn, p_now_last, r9, q_rowsOf, q_columnsOf, q_folded, q_wronged, q_shapeRows, q_shapeColumns, q_row, q_column, q_below, q_face, q_worn, q_lastBend, h8, h9, y_0, z_0, w_0, w_4⟩ := rs_sheet_cr (x1 := (xs (x3 + (1 : Int32)).toNatClampNeg)) (v_now_folds := v_now_folds) (v_now_wrong := v_now_wrong) (v_now_more := v_now_more) (m_folded := m_folded) (m_wronged := m_wronged) u_0 t_1 hr_0 hr_4
  exact lc_0 C0 hX hbl hi_1 rfl h8 h9 hc1 hc2 hP hD hS hl (fun H locs hP hD hS => K v_hasImage p_now_rows p_now_cols p_now_high p_now_wide p_now_folds p_now_wrong p_now_more p_now_rowOf p_now_colOf p_now_below p_now_face p_now_worn p_now_last v_now_bend v_now_tall v_kept_rows v_kept_cols v_kept_high v_kept_wide v_kept_folds v_kept_wrong v_kept_more v_kept_rowOf v_kept_colOf v_kept_below v_kept_face v_kept_worn v_kept_last v_kept_bend v_kept_tall v_wearing_size v_wearing_stepCount v_wearing_draftCount v_wearing_place v_wearing_fault v_wearing_stacked v_wearing_tape v_wearing_steps v_wearing_draft v_wearing_stack v_planned_size v_planned_trial_rows v_planned_trial_cols v_planned_trial_high v_planned_trial_wide v_planned_trial_folds v_planned_trial_wrong v_planned_trial_more v_planned_trial_rowOf v_planned_trial_colOf v_planned_trial_below v_planned_trial_face v_planned_trial_worn v_planned_trial_last v_planned_trial_bend v_planned_trial_tall v_planned_lines v_planned_ways v_search_found v_search_wrong v_search_more v_search_folds v_search_wanted v_search_levels0_rows v_search_levels0_cols v_search_levels0_high v_search_levels0_wide v_search_levels0_folds v_search_levels0_wrong v_search_levels0_more v_search_levels0_rowOf v_search_levels0_colOf v_search_levels0_below v_search_levels0_face v_search_levels0_worn v_search_levels0_last v_search_levels0_bend v_search_levels0_tall v_search_levels1_rows v_search_levels1_cols v_search_levels1_high v_search_levels1_wide v_search_levels1_folds v_search_levels1_wrong v_search_levels1_more v_search_levels1_rowOf v_search_levels1_colOf v_search_levels1_below v_search_levels1_face v_search_levels1_worn v_search_levels1_last v_search_levels1_bend v_search_levels1_tall v_search_levels2_rows v_search_levels2_cols v_search_levels2_high v_search_levels2_wide v_search_levels2_folds v_search_levels2_wrong v_search_levels2_more v_search_levels2_rowOf v_search_levels2_colOf v_search_levels2_below v_search_levels2_face v_search_levels2_worn v_search_levels2_last v_search_levels2_bend v_search_levels2_tall v_search_levels3_rows v_search_levels3_cols v_search_levels3_high v_search_levels3_wide v_search_levels3_folds v_search_levels3_wrong v_search_levels3_more v_search_levels3_rowOf v_search_levels3_colOf v_search_levels3_below v_search_levels3_face v_search_levels3_worn v_search_levels3_last v_search_levels3_bend v_search_levels3_tall v_search_path v_search_best v_strip_list v_strip_found v_strip_at v_changes_value v_changes_done v_changes_size v_changes_before v_changes_after v_foldings_size v_foldings_ran v_foldings_number v_foldings_kinds v_foldings_trace v_shelves0_holds v_shelves0_body v_shelves0_sort v_shelves0_size v_shelves0_items v_shelves1_holds v_shelves1_body v_shelves1_sort v_shelves1_size v_shelves1_items v_shelves2_holds v_shelves2_body v_shelves2_sort v_shelves2_size v_shelves2_items v_shelves3_holds v_shelves3_body v_shelves3_sort v_shelves3_size v_shelves3_items v_shelves4_holds v_shelves4_body v_shelves4_sort v_shelves4_size v_shelves4_items v_shelves5_holds v_shelves5_body v_shelves5_sort v_shelves5_size v_shelves5_items m_keptMany m_done q_rowsOf q_columnsOf q_folded q_wronged m_tapeMany m_textMany m_base m_at m_ends m_fault m_opened m_bentMany m_bentWrong m_moreWorn m_planned m_allWrong m_allWorn m_z m_wishedField m_isFound m_bestWrong m_bestWorn m_bestMany m_soughtBy m_sought m_soughtAt m_foundMany m_foundOrder m_isKept m_imageRows m_imageColumns m_imageFolded m_imageWronged m_bodies m_ran m_ownKind m_ownNumber m_limit m_changeWas m_changeIs q_shapeRows q_shapeColumns q_row q_column q_below q_face q_worn q_lastBend m_tape m_text m_names m_bends m_high m_to m_pileSize m_planLine m_planWay m_way1 m_bestWay m_order1 m_placeIn m_bodyKind m_trace m_shelf m_many m_items m_carried H locs y_0 u_1 u_2 u_3 u_4 u_5 u_6 u_7 u_8 u_9 u_10 u_11 u_12 u_13 u_14 u_15 u_16 u_17 u_18 t_0 z_0 t_2 t_3 t_4 t_5 t_6 t_7 w_0 hr_1 hr_2 hr_3 w_4 hP hD hS)
set_option maxHeartbeats 8000000 in
set_option maxRecDepth 100000 in
theorem ls_1 {p : Program} {l : Launch} {e : Env} {s : State} {m : MethodId} {below : List Frame} {meth : Method} {c : Code} {D : va_G} {cI cL cS cH : ClassId} {bb : Nat} {a b : Nat → Nat} {cells slots : Nat} {Q : State → Prop} {L : Nat} {xs : Nat → Int32} {x3 : Int32} {ls : Array Slot} (C0 : mm_Cx p s m #[Value.ref bb] meth c RL code 4 ret D (mm_T cI cL cS cH) (fun q => s.heap.size ≤ q)) (hX : va_X bb L xs s s.heap) (hbl : bb < s.heap.size) (hi_1 : vp_in (x3 + (1 : Int32)) L) (hc1 : cells ≤ room_1.cells) (hc2 : slots ≤ room_1.slots) (hl : lv_has ls 4 [(0, .ref bb), (1, .ref (a 0)), (2, .ref (b 0)), (3, .int x3)]) (K : lw_St p l e s m below meth c D cI cL cS cH bb a b cells slots Q 1391 ls) : lw_St p l e s m below meth c D cI cL cS cH bb a b cells slots Q 227 ls := by
  intro v_hasImage v_now_rows v_now_cols v_now_high v_now_wide v_now_folds v_now_wrong v_now_more v_now_rowOf v_now_colOf v_now_below v_now_face v_now_worn v_now_last v_now_bend v_now_tall v_kept_rows v_kept_cols v_kept_high v_kept_wide v_kept_folds v_kept_wrong v_kept_more v_kept_rowOf v_kept_colOf v_kept_below v_kept_face v_kept_worn v_kept_last v_kept_bend v_kept_tall v_wearing_size v_wearing_stepCount v_wearing_draftCount v_wearing_place v_wearing_fault v_wearing_stacked v_wearing_tape v_wearing_steps v_wearing_draft v_wearing_stack v_planned_size v_planned_trial_rows v_planned_trial_cols v_planned_trial_high v_planned_trial_wide v_planned_trial_folds v_planned_trial_wrong v_planned_trial_more v_planned_trial_rowOf v_planned_trial_colOf v_planned_trial_below v_planned_trial_face v_planned_trial_worn v_planned_trial_last v_planned_trial_bend v_planned_trial_tall v_planned_lines v_planned_ways v_search_found v_search_wrong v_search_more v_search_folds v_search_wanted v_search_levels0_rows v_search_levels0_cols v_search_levels0_high v_search_levels0_wide v_search_levels0_folds v_search_levels0_wrong v_search_levels0_more v_search_levels0_rowOf v_search_levels0_colOf v_search_levels0_below v_search_levels0_face v_search_levels0_worn v_search_levels0_last v_search_levels0_bend v_search_levels0_tall v_search_levels1_rows v_search_levels1_cols v_search_levels1_high v_search_levels1_wide v_search_levels1_folds v_search_levels1_wrong v_search_levels1_more v_search_levels1_rowOf v_search_levels1_colOf v_search_levels1_below v_search_levels1_face v_search_levels1_worn v_search_levels1_last v_search_levels1_bend v_search_levels1_tall v_search_levels2_rows v_search_levels2_cols v_search_levels2_high v_search_levels2_wide v_search_levels2_folds v_search_levels2_wrong v_search_levels2_more v_search_levels2_rowOf v_search_levels2_colOf v_search_levels2_below v_search_levels2_face v_search_levels2_worn v_search_levels2_last v_search_levels2_bend v_search_levels2_tall v_search_levels3_rows v_search_levels3_cols v_search_levels3_high v_search_levels3_wide v_search_levels3_folds v_search_levels3_wrong v_search_levels3_more v_search_levels3_rowOf v_search_levels3_colOf v_search_levels3_below v_search_levels3_face v_search_levels3_worn v_search_levels3_last v_search_levels3_bend v_search_levels3_tall v_search_path v_search_best v_strip_list v_strip_found v_strip_at v_changes_value v_changes_done v_changes_size v_changes_before v_changes_after v_foldings_size v_foldings_ran v_foldings_number v_foldings_kinds v_foldings_trace v_shelves0_holds v_shelves0_body v_shelves0_sort v_shelves0_size v_shelves0_items v_shelves1_holds v_shelves1_body v_shelves1_sort v_shelves1_size v_shelves1_items v_shelves2_holds v_shelves2_body v_shelves2_sort v_shelves2_size v_shelves2_items v_shelves3_holds v_shelves3_body v_shelves3_sort v_shelves3_size v_shelves3_items v_shelves4_holds v_shelves4_body v_shelves4_sort v_shelves4_size v_shelves4_items v_shelves5_holds v_shelves5_body v_shelves5_sort v_shelves5_size v_shelves5_items m_keptMany m_done m_rowsOf m_columnsOf m_folded m_wronged m_tapeMany m_textMany m_base m_at m_ends m_fault m_opened m_bentMany m_bentWrong m_moreWorn m_planned m_allWrong m_allWorn m_z m_wishedField m_isFound m_bestWrong m_bestWorn m_bestMany m_soughtBy m_sought m_soughtAt m_foundMany m_foundOrder m_isKept m_imageRows m_imageColumns m_imageFolded m_imageWronged m_bodies m_ran m_ownKind m_ownNumber m_limit m_changeWas m_changeIs m_shapeRows m_shapeColumns m_row m_column m_below m_face m_worn m_lastBend m_tape m_text m_names m_bends m_high m_to m_pileSize m_planLine m_planWay m_way1 m_bestWay m_order1 m_placeIn m_bodyKind m_trace m_shelf m_many m_items m_carried H locs u_0 u_1 u_2 u_3 u_4 u_5 u_6 u_7 u_8 u_9 u_10 u_11 u_12 u_13 u_14 u_15 u_16 u_17 u_18 t_0 t_1 t_2 t_3 t_4 t_5 t_6 t_7 hr_0 hr_1 hr_2 hr_3 hr_4 hP hD hS
  obtain ⟨r, p_changes_value, p_changes_done, p_changes_size, p_changes_before, p_changes_after, q_keptMany, q_done, q_limit, q_changeWas, q_changeIs, h8, h9, y_0, z_0, w_1⟩ := rs_limit (x1 := (xs (x3 + (1 : Int32)).toNatClampNeg)) (v_changes_value := v_changes_value) u_1 t_0 hr_1
  exact lc_1 C0 hX hbl hi_1 rfl h8 h9 hc1 hc2 hP hD hS hl (fun H locs hP hD hS => K v_hasImage v_now_rows v_now_cols v_now_high v_now_wide v_now_folds v_now_wrong v_now_more v_now_rowOf v_now_colOf v_now_below v_now_face v_now_worn v_now_last v_now_bend v_now_tall v_kept_rows v_kept_cols v_kept_high v_kept_wide v_kept_folds v_kept_wrong v_kept_more v_kept_rowOf v_kept_colOf v_kept_below v_kept_face v_kept_worn v_kept_last v_kept_bend v_kept_tall v_wearing_size v_wearing_stepCount v_wearing_draftCount v_wearing_place v_wearing_fault v_wearing_stacked v_wearing_tape v_wearing_steps v_wearing_draft v_wearing_stack v_planned_size v_planned_trial_rows v_planned_trial_cols v_planned_trial_high v_planned_trial_wide v_planned_trial_folds v_planned_trial_wrong v_planned_trial_more v_planned_trial_rowOf v_planned_trial_colOf v_planned_trial_below v_planned_trial_face v_planned_trial_worn v_planned_trial_last v_planned_trial_bend v_planned_trial_tall v_planned_lines v_planned_ways v_search_found v_search_wrong v_search_more v_search_folds v_search_wanted v_search_levels0_rows v_search_levels0_cols v_search_levels0_high v_search_levels0_wide v_search_levels0_folds v_search_levels0_wrong v_search_levels0_more v_search_levels0_rowOf v_search_levels0_colOf v_search_levels0_below v_search_levels0_face v_search_levels0_worn v_search_levels0_last v_search_levels0_bend v_search_levels0_tall v_search_levels1_rows v_search_levels1_cols v_search_levels1_high v_search_levels1_wide v_search_levels1_folds v_search_levels1_wrong v_search_levels1_more v_search_levels1_rowOf v_search_levels1_colOf v_search_levels1_below v_search_levels1_face v_search_levels1_worn v_search_levels1_last v_search_levels1_bend v_search_levels1_tall v_search_levels2_rows v_search_levels2_cols v_search_levels2_high v_search_levels2_wide v_search_levels2_folds v_search_levels2_wrong v_search_levels2_more v_search_levels2_rowOf v_search_levels2_colOf v_search_levels2_below v_search_levels2_face v_search_levels2_worn v_search_levels2_last v_search_levels2_bend v_search_levels2_tall v_search_levels3_rows v_search_levels3_cols v_search_levels3_high v_search_levels3_wide v_search_levels3_folds v_search_levels3_wrong v_search_levels3_more v_search_levels3_rowOf v_search_levels3_colOf v_search_levels3_below v_search_levels3_face v_search_levels3_worn v_search_levels3_last v_search_levels3_bend v_search_levels3_tall v_search_path v_search_best v_strip_list v_strip_found v_strip_at p_changes_value p_changes_done p_changes_size p_changes_before p_changes_after v_foldings_size v_foldings_ran v_foldings_number v_foldings_kinds v_foldings_trace v_shelves0_holds v_shelves0_body v_shelves0_sort v_shelves0_size v_shelves0_items v_shelves1_holds v_shelves1_body v_shelves1_sort v_shelves1_size v_shelves1_items v_shelves2_holds v_shelves2_body v_shelves2_sort v_shelves2_size v_shelves2_items v_shelves3_holds v_shelves3_body v_shelves3_sort v_shelves3_size v_shelves3_items v_shelves4_holds v_shelves4_body v_shelves4_sort v_shelves4_size v_shelves4_items v_shelves5_holds v_shelves5_body v_shelves5_sort v_shelves5_size v_shelves5_items q_keptMany q_done m_rowsOf m_columnsOf m_folded m_wronged m_tapeMany m_textMany m_base m_at m_ends m_fault m_opened m_bentMany m_bentWrong m_moreWorn m_planned m_allWrong m_allWorn m_z m_wishedField m_isFound m_bestWrong m_bestWorn m_bestMany m_soughtBy m_sought m_soughtAt m_foundMany m_foundOrder m_isKept m_imageRows m_imageColumns m_imageFolded m_imageWronged m_bodies m_ran m_ownKind m_ownNumber q_limit q_changeWas q_changeIs m_shapeRows m_shapeColumns m_row m_column m_below m_face m_worn m_lastBend m_tape m_text m_names m_bends m_high m_to m_pileSize m_planLine m_planWay m_way1 m_bestWay m_order1 m_placeIn m_bodyKind m_trace m_shelf m_many m_items m_carried H locs u_0 y_0 u_2 u_3 u_4 u_5 u_6 u_7 u_8 u_9 u_10 u_11 u_12 u_13 u_14 u_15 u_16 u_17 u_18 z_0 t_1 t_2 t_3 t_4 t_5 t_6 t_7 hr_0 w_1 hr_2 hr_3 hr_4 hP hD hS)
set_option maxHeartbeats 8000000 in
set_option maxRecDepth 100000 in
theorem ls_2 {p : Program} {l : Launch} {e : Env} {s : State} {m : MethodId} {below : List Frame} {meth : Method} {c : Code} {D : va_G} {cI cL cS cH : ClassId} {bb : Nat} {a b : Nat → Nat} {cells slots : Nat} {Q : State → Prop} {L : Nat} {xs : Nat → Int32} {x3 : Int32} {ls : Array Slot} (C0 : mm_Cx p s m #[Value.ref bb] meth c RL code 4 ret D (mm_T cI cL cS cH) (fun q => s.heap.size ≤ q)) (hX : va_X bb L xs s s.heap) (hbl : bb < s.heap.size) (hi_1 : vp_in (x3 + (1 : Int32)) L) (hc1 : cells ≤ room_1.cells) (hc2 : slots ≤ room_1.slots) (hl : lv_has ls 4 [(0, .ref bb), (1, .ref (a 0)), (2, .ref (b 0)), (3, .int x3)]) (K : lw_St p l e s m below meth c D cI cL cS cH bb a b cells slots Q 1391 ls) : lw_St p l e s m below meth c D cI cL cS cH bb a b cells slots Q 250 ls := by
  intro v_hasImage v_now_rows v_now_cols v_now_high v_now_wide v_now_folds v_now_wrong v_now_more v_now_rowOf v_now_colOf v_now_below v_now_face v_now_worn v_now_last v_now_bend v_now_tall v_kept_rows v_kept_cols v_kept_high v_kept_wide v_kept_folds v_kept_wrong v_kept_more v_kept_rowOf v_kept_colOf v_kept_below v_kept_face v_kept_worn v_kept_last v_kept_bend v_kept_tall v_wearing_size v_wearing_stepCount v_wearing_draftCount v_wearing_place v_wearing_fault v_wearing_stacked v_wearing_tape v_wearing_steps v_wearing_draft v_wearing_stack v_planned_size v_planned_trial_rows v_planned_trial_cols v_planned_trial_high v_planned_trial_wide v_planned_trial_folds v_planned_trial_wrong v_planned_trial_more v_planned_trial_rowOf v_planned_trial_colOf v_planned_trial_below v_planned_trial_face v_planned_trial_worn v_planned_trial_last v_planned_trial_bend v_planned_trial_tall v_planned_lines v_planned_ways v_search_found v_search_wrong v_search_more v_search_folds v_search_wanted v_search_levels0_rows v_search_levels0_cols v_search_levels0_high v_search_levels0_wide v_search_levels0_folds v_search_levels0_wrong v_search_levels0_more v_search_levels0_rowOf v_search_levels0_colOf v_search_levels0_below v_search_levels0_face v_search_levels0_worn v_search_levels0_last v_search_levels0_bend v_search_levels0_tall v_search_levels1_rows v_search_levels1_cols v_search_levels1_high v_search_levels1_wide v_search_levels1_folds v_search_levels1_wrong v_search_levels1_more v_search_levels1_rowOf v_search_levels1_colOf v_search_levels1_below v_search_levels1_face v_search_levels1_worn v_search_levels1_last v_search_levels1_bend v_search_levels1_tall v_search_levels2_rows v_search_levels2_cols v_search_levels2_high v_search_levels2_wide v_search_levels2_folds v_search_levels2_wrong v_search_levels2_more v_search_levels2_rowOf v_search_levels2_colOf v_search_levels2_below v_search_levels2_face v_search_levels2_worn v_search_levels2_last v_search_levels2_bend v_search_levels2_tall v_search_levels3_rows v_search_levels3_cols v_search_levels3_high v_search_levels3_wide v_search_levels3_folds v_search_levels3_wrong v_search_levels3_more v_search_levels3_rowOf v_search_levels3_colOf v_search_levels3_below v_search_levels3_face v_search_levels3_worn v_search_levels3_last v_search_levels3_bend v_search_levels3_tall v_search_path v_search_best v_strip_list v_strip_found v_strip_at v_changes_value v_changes_done v_changes_size v_changes_before v_changes_after v_foldings_size v_foldings_ran v_foldings_number v_foldings_kinds v_foldings_trace v_shelves0_holds v_shelves0_body v_shelves0_sort v_shelves0_size v_shelves0_items v_shelves1_holds v_shelves1_body v_shelves1_sort v_shelves1_size v_shelves1_items v_shelves2_holds v_shelves2_body v_shelves2_sort v_shelves2_size v_shelves2_items v_shelves3_holds v_shelves3_body v_shelves3_sort v_shelves3_size v_shelves3_items v_shelves4_holds v_shelves4_body v_shelves4_sort v_shelves4_size v_shelves4_items v_shelves5_holds v_shelves5_body v_shelves5_sort v_shelves5_size v_shelves5_items m_keptMany m_done m_rowsOf m_columnsOf m_folded m_wronged m_tapeMany m_textMany m_base m_at m_ends m_fault m_opened m_bentMany m_bentWrong m_moreWorn m_planned m_allWrong m_allWorn m_z m_wishedField m_isFound m_bestWrong m_bestWorn m_bestMany m_soughtBy m_sought m_soughtAt m_foundMany m_foundOrder m_isKept m_imageRows m_imageColumns m_imageFolded m_imageWronged m_bodies m_ran m_ownKind m_ownNumber m_limit m_changeWas m_changeIs m_shapeRows m_shapeColumns m_row m_column m_below m_face m_worn m_lastBend m_tape m_text m_names m_bends m_high m_to m_pileSize m_planLine m_planWay m_way1 m_bestWay m_order1 m_placeIn m_bodyKind m_trace m_shelf m_many m_items m_carried H locs u_0 u_1 u_2 u_3 u_4 u_5 u_6 u_7 u_8 u_9 u_10 u_11 u_12 u_13 u_14 u_15 u_16 u_17 u_18 t_0 t_1 t_2 t_3 t_4 t_5 t_6 t_7 hr_0 hr_1 hr_2 hr_3 hr_4 hP hD hS
  obtain ⟨r, p_wearing_size, p_wearing_tape, q_tapeMany, q_tape, h8, h9, y_0, z_0, w_2⟩ := rs_feed (x1 := (xs (x3 + (1 : Int32)).toNatClampNeg)) u_2 t_2 hr_2
  exact lc_2 C0 hX hbl hi_1 rfl h8 h9 hc1 hc2 hP hD hS hl (fun H locs hP hD hS => K v_hasImage v_now_rows v_now_cols v_now_high v_now_wide v_now_folds v_now_wrong v_now_more v_now_rowOf v_now_colOf v_now_below v_now_face v_now_worn v_now_last v_now_bend v_now_tall v_kept_rows v_kept_cols v_kept_high v_kept_wide v_kept_folds v_kept_wrong v_kept_more v_kept_rowOf v_kept_colOf v_kept_below v_kept_face v_kept_worn v_kept_last v_kept_bend v_kept_tall p_wearing_size v_wearing_stepCount v_wearing_draftCount v_wearing_place v_wearing_fault v_wearing_stacked p_wearing_tape v_wearing_steps v_wearing_draft v_wearing_stack v_planned_size v_planned_trial_rows v_planned_trial_cols v_planned_trial_high v_planned_trial_wide v_planned_trial_folds v_planned_trial_wrong v_planned_trial_more v_planned_trial_rowOf v_planned_trial_colOf v_planned_trial_below v_planned_trial_face v_planned_trial_worn v_planned_trial_last v_planned_trial_bend v_planned_trial_tall v_planned_lines v_planned_ways v_search_found v_search_wrong v_search_more v_search_folds v_search_wanted v_search_levels0_rows v_search_levels0_cols v_search_levels0_high v_search_levels0_wide v_search_levels0_folds v_search_levels0_wrong v_search_levels0_more v_search_levels0_rowOf v_search_levels0_colOf v_search_levels0_below v_search_levels0_face v_search_levels0_worn v_search_levels0_last v_search_levels0_bend v_search_levels0_tall v_search_levels1_rows v_search_levels1_cols v_search_levels1_high v_search_levels1_wide v_search_levels1_folds v_search_levels1_wrong v_search_levels1_more v_search_levels1_rowOf v_search_levels1_colOf v_search_levels1_below v_search_levels1_face v_search_levels1_worn v_search_levels1_last v_search_levels1_bend v_search_levels1_tall v_search_levels2_rows v_search_levels2_cols v_search_levels2_high v_search_levels2_wide v_search_levels2_folds v_search_levels2_wrong v_search_levels2_more v_search_levels2_rowOf v_search_levels2_colOf v_search_levels2_below v_search_levels2_face v_search_levels2_worn v_search_levels2_last v_search_levels2_bend v_search_levels2_tall v_search_levels3_rows v_search_levels3_cols v_search_levels3_high v_search_levels3_wide v_search_levels3_folds v_search_levels3_wrong v_search_levels3_more v_search_levels3_rowOf v_search_levels3_colOf v_search_levels3_below v_search_levels3_face v_search_levels3_worn v_search_levels3_last v_search_levels3_bend v_search_levels3_tall v_search_path v_search_best v_strip_list v_strip_found v_strip_at v_changes_value v_changes_done v_changes_size v_changes_before v_changes_after v_foldings_size v_foldings_ran v_foldings_number v_foldings_kinds v_foldings_trace v_shelves0_holds v_shelves0_body v_shelves0_sort v_shelves0_size v_shelves0_items v_shelves1_holds v_shelves1_body v_shelves1_sort v_shelves1_size v_shelves1_items v_shelves2_holds v_shelves2_body v_shelves2_sort v_shelves2_size v_shelves2_items v_shelves3_holds v_shelves3_body v_shelves3_sort v_shelves3_size v_shelves3_items v_shelves4_holds v_shelves4_body v_shelves4_sort v_shelves4_size v_shelves4_items v_shelves5_holds v_shelves5_body v_shelves5_sort v_shelves5_size v_shelves5_items m_keptMany m_done m_rowsOf m_columnsOf m_folded m_wronged q_tapeMany m_textMany m_base m_at m_ends m_fault m_opened m_bentMany m_bentWrong m_moreWorn m_planned m_allWrong m_allWorn m_z m_wishedField m_isFound m_bestWrong m_bestWorn m_bestMany m_soughtBy m_sought m_soughtAt m_foundMany m_foundOrder m_isKept m_imageRows m_imageColumns m_imageFolded m_imageWronged m_bodies m_ran m_ownKind m_ownNumber m_limit m_changeWas m_changeIs m_shapeRows m_shapeColumns m_row m_column m_below m_face m_worn m_lastBend q_tape m_text m_names m_bends m_high m_to m_pileSize m_planLine m_planWay m_way1 m_bestWay m_order1 m_placeIn m_bodyKind m_trace m_shelf m_many m_items m_carried H locs u_0 u_1 y_0 u_3 u_4 u_5 u_6 u_7 u_8 u_9 u_10 u_11 u_12 u_13 u_14 u_15 u_16 u_17 u_18 t_0 t_1 z_0 t_3 t_4 t_5 t_6 t_7 hr_0 hr_1 w_2 hr_3 hr_4 hP hD hS)
set_option maxHeartbeats 8000000 in
set_option maxRecDepth 100000 in
theorem ls_3 {p : Program} {l : Launch} {e : Env} {s : State} {m : MethodId} {below : List Frame} {meth : Method} {c : Code} {D : va_G} {cI cL cS cH : ClassId} {bb : Nat} {a b : Nat → Nat} {cells slots : Nat} {Q : State → Prop} {L : Nat} {xs : Nat → Int32} {x3 : Int32} {ls : Array Slot} (C0 : mm_Cx p s m #[Value.ref bb] meth c RL code 4 ret D (mm_T cI cL cS cH) (fun q => s.heap.size ≤ q)) (hX : va_X bb L xs s s.heap) (hbl : bb < s.heap.size)  (hc1 : cells ≤ room_1.cells) (hc2 : slots ≤ room_1.slots) (hl : lv_has ls 4 [(0, .ref bb), (1, .ref (a 0)), (2, .ref (b 0)), (3, .int x3)]) (K : lw_St p l e s m below meth c D cI cL cS cH bb a b cells slots Q 1391 ls) : lw_St p l e s m below meth c D cI cL cS cH bb a b cells slots Q 273 ls := by
  intro v_hasImage v_now_rows v_now_cols v_now_high v_now_wide v_now_folds v_now_wrong v_now_more v_now_rowOf v_now_colOf v_now_below v_now_face v_now_worn v_now_last v_now_bend v_now_tall v_kept_rows v_kept_cols v_kept_high v_kept_wide v_kept_folds v_kept_wrong v_kept_more v_kept_rowOf v_kept_colOf v_kept_below v_kept_face v_kept_worn v_kept_last v_kept_bend v_kept_tall v_wearing_size v_wearing_stepCount v_wearing_draftCount v_wearing_place v_wearing_fault v_wearing_stacked v_wearing_tape v_wearing_steps v_wearing_draft v_wearing_stack v_planned_size v_planned_trial_rows v_planned_trial_cols v_planned_trial_high v_planned_trial_wide v_planned_trial_folds v_planned_trial_wrong v_planned_trial_more v_planned_trial_rowOf v_planned_trial_colOf v_planned_trial_below v_planned_trial_face v_planned_trial_worn v_planned_trial_last v_planned_trial_bend v_planned_trial_tall v_planned_lines v_planned_ways v_search_found v_search_wrong v_search_more v_search_folds v_search_wanted v_search_levels0_rows v_search_levels0_cols v_search_levels0_high v_search_levels0_wide v_search_levels0_folds v_search_levels0_wrong v_search_levels0_more v_search_levels0_rowOf v_search_levels0_colOf v_search_levels0_below v_search_levels0_face v_search_levels0_worn v_search_levels0_last v_search_levels0_bend v_search_levels0_tall v_search_levels1_rows v_search_levels1_cols v_search_levels1_high v_search_levels1_wide v_search_levels1_folds v_search_levels1_wrong v_search_levels1_more v_search_levels1_rowOf v_search_levels1_colOf v_search_levels1_below v_search_levels1_face v_search_levels1_worn v_search_levels1_last v_search_levels1_bend v_search_levels1_tall v_search_levels2_rows v_search_levels2_cols v_search_levels2_high v_search_levels2_wide v_search_levels2_folds v_search_levels2_wrong v_search_levels2_more v_search_levels2_rowOf v_search_levels2_colOf v_search_levels2_below v_search_levels2_face v_search_levels2_worn v_search_levels2_last v_search_levels2_bend v_search_levels2_tall v_search_levels3_rows v_search_levels3_cols v_search_levels3_high v_search_levels3_wide v_search_levels3_folds v_search_levels3_wrong v_search_levels3_more v_search_levels3_rowOf v_search_levels3_colOf v_search_levels3_below v_search_levels3_face v_search_levels3_worn v_search_levels3_last v_search_levels3_bend v_search_levels3_tall v_search_path v_search_best v_strip_list v_strip_found v_strip_at v_changes_value v_changes_done v_changes_size v_changes_before v_changes_after v_foldings_size v_foldings_ran v_foldings_number v_foldings_kinds v_foldings_trace v_shelves0_holds v_shelves0_body v_shelves0_sort v_shelves0_size v_shelves0_items v_shelves1_holds v_shelves1_body v_shelves1_sort v_shelves1_size v_shelves1_items v_shelves2_holds v_shelves2_body v_shelves2_sort v_shelves2_size v_shelves2_items v_shelves3_holds v_shelves3_body v_shelves3_sort v_shelves3_size v_shelves3_items v_shelves4_holds v_shelves4_body v_shelves4_sort v_shelves4_size v_shelves4_items v_shelves5_holds v_shelves5_body v_shelves5_sort v_shelves5_size v_shelves5_items m_keptMany m_done m_rowsOf m_columnsOf m_folded m_wronged m_tapeMany m_textMany m_base m_at m_ends m_fault m_opened m_bentMany m_bentWrong m_moreWorn m_planned m_allWrong m_allWorn m_z m_wishedField m_isFound m_bestWrong m_bestWorn m_bestMany m_soughtBy m_sought m_soughtAt m_foundMany m_foundOrder m_isKept m_imageRows m_imageColumns m_imageFolded m_imageWronged m_bodies m_ran m_ownKind m_ownNumber m_limit m_changeWas m_changeIs m_shapeRows m_shapeColumns m_row m_column m_below m_face m_worn m_lastBend m_tape m_text m_names m_bends m_high m_to m_pileSize m_planLine m_planWay m_way1 m_bestWay m_order1 m_placeIn m_bodyKind m_trace m_shelf m_many m_items m_carried H locs u_0 u_1 u_2 u_3 u_4 u_5 u_6 u_7 u_8 u_9 u_10 u_11 u_12 u_13 u_14 u_15 u_16 u_17 u_18 t_0 t_1 t_2 t_3 t_4 t_5 t_6 t_7 hr_0 hr_1 hr_2 hr_3 hr_4 hP hD hS
  obtain ⟨r, p_wearing_size, p_wearing_stepCount, p_wearing_draftCount, p_wearing_place, p_wearing_fault, p_wearing_steps, p_wearing_draft, q_tapeMany, q_textMany, q_base, q_at, q_ends, q_fault, q_opened, q_text, h8, h9, y_0, z_0, w_2, w_3⟩ := rs_law_lw (v_wearing_place := v_wearing_place) (v_wearing_fault := v_wearing_fault) (m_base := m_base) (m_at := m_at) (m_ends := m_ends) (m_fault := m_fault) (m_opened := m_opened) u_2 t_2 hr_2 hr_3
  exact lc_3 C0 hX hbl  h8 h9 hc1 hc2 hP hD hS hl (fun H locs hP hD hS => K v_hasImage v_now_rows v_now_cols v_now_high v_now_wide v_now_folds v_now_wrong v_now_more v_now_rowOf v_now_colOf v_now_below v_now_face v_now_worn v_now_last v_now_bend v_now_tall v_kept_rows v_kept_cols v_kept_high v_kept_wide v_kept_folds v_kept_wrong v_kept_more v_kept_rowOf v_kept_colOf v_kept_below v_kept_face v_kept_worn v_kept_last v_kept_bend v_kept_tall p_wearing_size p_wearing_stepCount p_wearing_draftCount p_wearing_place p_wearing_fault v_wearing_stacked v_wearing_tape p_wearing_steps p_wearing_draft v_wearing_stack v_planned_size v_planned_trial_rows v_planned_trial_cols v_planned_trial_high v_planned_trial_wide v_planned_trial_folds v_planned_trial_wrong v_planned_trial_more v_planned_trial_rowOf v_planned_trial_colOf v_planned_trial_below v_planned_trial_face v_planned_trial_worn v_planned_trial_last v_planned_trial_bend v_planned_trial_tall v_planned_lines v_planned_ways v_search_found v_search_wrong v_search_more v_search_folds v_search_wanted v_search_levels0_rows v_search_levels0_cols v_search_levels0_high v_search_levels0_wide v_search_levels0_folds v_search_levels0_wrong v_search_levels0_more v_search_levels0_rowOf v_search_levels0_colOf v_search_levels0_below v_search_levels0_face v_search_levels0_worn v_search_levels0_last v_search_levels0_bend v_search_levels0_tall v_search_levels1_rows v_search_levels1_cols v_search_levels1_high v_search_levels1_wide v_search_levels1_folds v_search_levels1_wrong v_search_levels1_more v_search_levels1_rowOf v_search_levels1_colOf v_search_levels1_below v_search_levels1_face v_search_levels1_worn v_search_levels1_last v_search_levels1_bend v_search_levels1_tall v_search_levels2_rows v_search_levels2_cols v_search_levels2_high v_search_levels2_wide v_search_levels2_folds v_search_levels2_wrong v_search_levels2_more v_search_levels2_rowOf v_search_levels2_colOf v_search_levels2_below v_search_levels2_face v_search_levels2_worn v_search_levels2_last v_search_levels2_bend v_search_levels2_tall v_search_levels3_rows v_search_levels3_cols v_search_levels3_high v_search_levels3_wide v_search_levels3_folds v_search_levels3_wrong v_search_levels3_more v_search_levels3_rowOf v_search_levels3_colOf v_search_levels3_below v_search_levels3_face v_search_levels3_worn v_search_levels3_last v_search_levels3_bend v_search_levels3_tall v_search_path v_search_best v_strip_list v_strip_found v_strip_at v_changes_value v_changes_done v_changes_size v_changes_before v_changes_after v_foldings_size v_foldings_ran v_foldings_number v_foldings_kinds v_foldings_trace v_shelves0_holds v_shelves0_body v_shelves0_sort v_shelves0_size v_shelves0_items v_shelves1_holds v_shelves1_body v_shelves1_sort v_shelves1_size v_shelves1_items v_shelves2_holds v_shelves2_body v_shelves2_sort v_shelves2_size v_shelves2_items v_shelves3_holds v_shelves3_body v_shelves3_sort v_shelves3_size v_shelves3_items v_shelves4_holds v_shelves4_body v_shelves4_sort v_shelves4_size v_shelves4_items v_shelves5_holds v_shelves5_body v_shelves5_sort v_shelves5_size v_shelves5_items m_keptMany m_done m_rowsOf m_columnsOf m_folded m_wronged q_tapeMany q_textMany q_base q_at q_ends q_fault q_opened m_bentMany m_bentWrong m_moreWorn m_planned m_allWrong m_allWorn m_z m_wishedField m_isFound m_bestWrong m_bestWorn m_bestMany m_soughtBy m_sought m_soughtAt m_foundMany m_foundOrder m_isKept m_imageRows m_imageColumns m_imageFolded m_imageWronged m_bodies m_ran m_ownKind m_ownNumber m_limit m_changeWas m_changeIs m_shapeRows m_shapeColumns m_row m_column m_below m_face m_worn m_lastBend m_tape q_text m_names m_bends m_high m_to m_pileSize m_planLine m_planWay m_way1 m_bestWay m_order1 m_placeIn m_bodyKind m_trace m_shelf m_many m_items m_carried H locs u_0 u_1 y_0 u_3 u_4 u_5 u_6 u_7 u_8 u_9 u_10 u_11 u_12 u_13 u_14 u_15 u_16 u_17 u_18 t_0 t_1 z_0 t_3 t_4 t_5 t_6 t_7 hr_0 hr_1 w_2 w_3 hr_4 hP hD hS)
set_option maxHeartbeats 8000000 in
set_option maxRecDepth 100000 in
theorem ls_4 {p : Program} {l : Launch} {e : Env} {s : State} {m : MethodId} {below : List Frame} {meth : Method} {c : Code} {D : va_G} {cI cL cS cH : ClassId} {bb : Nat} {a b : Nat → Nat} {cells slots : Nat} {Q : State → Prop} {L : Nat} {xs : Nat → Int32} {x3 : Int32} {ls : Array Slot} (C0 : mm_Cx p s m #[Value.ref bb] meth c RL code 4 ret D (mm_T cI cL cS cH) (fun q => s.heap.size ≤ q)) (hX : va_X bb L xs s s.heap) (hbl : bb < s.heap.size) (hi_1 : vp_in (x3 + (1 : Int32)) L) (hi_2 : vp_in (x3 + (2 : Int32)) L) (hc1 : cells ≤ room_1.cells) (hc2 : slots ≤ room_1.slots) (hl : lv_has ls 4 [(0, .ref bb), (1, .ref (a 0)), (2, .ref (b 0)), (3, .int x3)]) (K : lw_St p l e s m below meth c D cI cL cS cH bb a b cells slots Q 1391 ls) : lw_St p l e s m below meth c D cI cL cS cH bb a b cells slots Q 286 ls := by
  intro v_hasImage v_now_rows v_now_cols v_now_high v_now_wide v_now_folds v_now_wrong v_now_more v_now_rowOf v_now_colOf v_now_below v_now_face v_now_worn v_now_last v_now_bend v_now_tall v_kept_rows v_kept_cols v_kept_high v_kept_wide v_kept_folds v_kept_wrong v_kept_more v_kept_rowOf v_kept_colOf v_kept_below v_kept_face v_kept_worn v_kept_last v_kept_bend v_kept_tall v_wearing_size v_wearing_stepCount v_wearing_draftCount v_wearing_place v_wearing_fault v_wearing_stacked v_wearing_tape v_wearing_steps v_wearing_draft v_wearing_stack v_planned_size v_planned_trial_rows v_planned_trial_cols v_planned_trial_high v_planned_trial_wide v_planned_trial_folds v_planned_trial_wrong v_planned_trial_more v_planned_trial_rowOf v_planned_trial_colOf v_planned_trial_below v_planned_trial_face v_planned_trial_worn v_planned_trial_last v_planned_trial_bend v_planned_trial_tall v_planned_lines v_planned_ways v_search_found v_search_wrong v_search_more v_search_folds v_search_wanted v_search_levels0_rows v_search_levels0_cols v_search_levels0_high v_search_levels0_wide v_search_levels0_folds v_search_levels0_wrong v_search_levels0_more v_search_levels0_rowOf v_search_levels0_colOf v_search_levels0_below v_search_levels0_face v_search_levels0_worn v_search_levels0_last v_search_levels0_bend v_search_levels0_tall v_search_levels1_rows v_search_levels1_cols v_search_levels1_high v_search_levels1_wide v_search_levels1_folds v_search_levels1_wrong v_search_levels1_more v_search_levels1_rowOf v_search_levels1_colOf v_search_levels1_below v_search_levels1_face v_search_levels1_worn v_search_levels1_last v_search_levels1_bend v_search_levels1_tall v_search_levels2_rows v_search_levels2_cols v_search_levels2_high v_search_levels2_wide v_search_levels2_folds v_search_levels2_wrong v_search_levels2_more v_search_levels2_rowOf v_search_levels2_colOf v_search_levels2_below v_search_levels2_face v_search_levels2_worn v_search_levels2_last v_search_levels2_bend v_search_levels2_tall v_search_levels3_rows v_search_levels3_cols v_search_levels3_high v_search_levels3_wide v_search_levels3_folds v_search_levels3_wrong v_search_levels3_more v_search_levels3_rowOf v_search_levels3_colOf v_search_levels3_below v_search_levels3_face v_search_levels3_worn v_search_levels3_last v_search_levels3_bend v_search_levels3_tall v_search_path v_search_best v_strip_list v_strip_found v_strip_at v_changes_value v_changes_done v_changes_size v_changes_before v_changes_after v_foldings_size v_foldings_ran v_foldings_number v_foldings_kinds v_foldings_trace v_shelves0_holds v_shelves0_body v_shelves0_sort v_shelves0_size v_shelves0_items v_shelves1_holds v_shelves1_body v_shelves1_sort v_shelves1_size v_shelves1_items v_shelves2_holds v_shelves2_body v_shelves2_sort v_shelves2_size v_shelves2_items v_shelves3_holds v_shelves3_body v_shelves3_sort v_shelves3_size v_shelves3_items v_shelves4_holds v_shelves4_body v_shelves4_sort v_shelves4_size v_shelves4_items v_shelves5_holds v_shelves5_body v_shelves5_sort v_shelves5_size v_shelves5_items m_keptMany m_done m_rowsOf m_columnsOf m_folded m_wronged m_tapeMany m_textMany m_base m_at m_ends m_fault m_opened m_bentMany m_bentWrong m_moreWorn m_planned m_allWrong m_allWorn m_z m_wishedField m_isFound m_bestWrong m_bestWorn m_bestMany m_soughtBy m_sought m_soughtAt m_foundMany m_foundOrder m_isKept m_imageRows m_imageColumns m_imageFolded m_imageWronged m_bodies m_ran m_ownKind m_ownNumber m_limit m_changeWas m_changeIs m_shapeRows m_shapeColumns m_row m_column m_below m_face m_worn m_lastBend m_tape m_text m_names m_bends m_high m_to m_pileSize m_planLine m_planWay m_way1 m_bestWay m_order1 m_placeIn m_bodyKind m_trace m_shelf m_many m_items m_carried H locs u_0 u_1 u_2 u_3 u_4 u_5 u_6 u_7 u_8 u_9 u_10 u_11 u_12 u_13 u_14 u_15 u_16 u_17 u_18 t_0 t_1 t_2 t_3 t_4 t_5 t_6 t_7 hr_0 hr_1 hr_2 hr_3 hr_4 hP hD hS
  obtain ⟨r, p_now_high, p_now_wide, p_now_folds, p_now_wrong, p_now_more, p_now_rowOf, p_now_colOf, p_now_below, p_now_face, p_now_worn, p_now_last, p_now_bend, p_now_tall, p_wearing_stacked, p_wearing_stack, q_folded, q_wronged, q_base, q_at, q_ends, q_fault, q_opened, q_bentMany, q_bentWrong, q_moreWorn, q_shapeRows, q_shapeColumns, q_row, q_column, q_below, q_face, q_worn, q_lastBend, q_names, q_bends, q_high, q_to, q_pileSize, h8, h9, y_0, y_1, z_0, z_1, w_0, w_1, w_3, w_4⟩ := rs_fold_cr (x1 := (xs (x3 + (1 : Int32)).toNatClampNeg)) (x2 := (xs (x3 + (2 : Int32)).toNatClampNeg)) (v_now_folds := v_now_folds) (v_now_wrong := v_now_wrong) (v_now_more := v_now_more) (v_wearing_stacked := v_wearing_stacked) (v_changes_value := v_changes_value) (m_folded := m_folded) (m_wronged := m_wronged) (m_base := m_base) (m_at := m_at) (m_ends := m_ends) (m_fault := m_fault) (m_opened := m_opened) (m_bentMany := m_bentMany) (m_bentWrong := m_bentWrong) (m_moreWorn := m_moreWorn) u_0 u_2 t_0 t_1 t_2 hr_0 hr_1 hr_3 hr_4
  exact lc_4 C0 hX hbl hi_1 rfl hi_2 rfl h8 h9 hc1 hc2 hP hD hS hl (fun H locs hP hD hS => K v_hasImage v_now_rows v_now_cols p_now_high p_now_wide p_now_folds p_now_wrong p_now_more p_now_rowOf p_now_colOf p_now_below p_now_face p_now_worn p_now_last p_now_bend p_now_tall v_kept_rows v_kept_cols v_kept_high v_kept_wide v_kept_folds v_kept_wrong v_kept_more v_kept_rowOf v_kept_colOf v_kept_below v_kept_face v_kept_worn v_kept_last v_kept_bend v_kept_tall v_wearing_size v_wearing_stepCount v_wearing_draftCount v_wearing_place v_wearing_fault p_wearing_stacked v_wearing_tape v_wearing_steps v_wearing_draft p_wearing_stack v_planned_size v_planned_trial_rows v_planned_trial_cols v_planned_trial_high v_planned_trial_wide v_planned_trial_folds v_planned_trial_wrong v_planned_trial_more v_planned_trial_rowOf v_planned_trial_colOf v_planned_trial_below v_planned_trial_face v_planned_trial_worn v_planned_trial_last v_planned_trial_bend v_planned_trial_tall v_planned_lines v_planned_ways v_search_found v_search_wrong v_search_more v_search_folds v_search_wanted v_search_levels0_rows v_search_levels0_cols v_search_levels0_high v_search_levels0_wide v_search_levels0_folds v_search_levels0_wrong v_search_levels0_more v_search_levels0_rowOf v_search_levels0_colOf v_search_levels0_below v_search_levels0_face v_search_levels0_worn v_search_levels0_last v_search_levels0_bend v_search_levels0_tall v_search_levels1_rows v_search_levels1_cols v_search_levels1_high v_search_levels1_wide v_search_levels1_folds v_search_levels1_wrong v_search_levels1_more v_search_levels1_rowOf v_search_levels1_colOf v_search_levels1_below v_search_levels1_face v_search_levels1_worn v_search_levels1_last v_search_levels1_bend v_search_levels1_tall v_search_levels2_rows v_search_levels2_cols v_search_levels2_high v_search_levels2_wide v_search_levels2_folds v_search_levels2_wrong v_search_levels2_more v_search_levels2_rowOf v_search_levels2_colOf v_search_levels2_below v_search_levels2_face v_search_levels2_worn v_search_levels2_last v_search_levels2_bend v_search_levels2_tall v_search_levels3_rows v_search_levels3_cols v_search_levels3_high v_search_levels3_wide v_search_levels3_folds v_search_levels3_wrong v_search_levels3_more v_search_levels3_rowOf v_search_levels3_colOf v_search_levels3_below v_search_levels3_face v_search_levels3_worn v_search_levels3_last v_search_levels3_bend v_search_levels3_tall v_search_path v_search_best v_strip_list v_strip_found v_strip_at v_changes_value v_changes_done v_changes_size v_changes_before v_changes_after v_foldings_size v_foldings_ran v_foldings_number v_foldings_kinds v_foldings_trace v_shelves0_holds v_shelves0_body v_shelves0_sort v_shelves0_size v_shelves0_items v_shelves1_holds v_shelves1_body v_shelves1_sort v_shelves1_size v_shelves1_items v_shelves2_holds v_shelves2_body v_shelves2_sort v_shelves2_size v_shelves2_items v_shelves3_holds v_shelves3_body v_shelves3_sort v_shelves3_size v_shelves3_items v_shelves4_holds v_shelves4_body v_shelves4_sort v_shelves4_size v_shelves4_items v_shelves5_holds v_shelves5_body v_shelves5_sort v_shelves5_size v_shelves5_items m_keptMany m_done m_rowsOf m_columnsOf q_folded q_wronged m_tapeMany m_textMany q_base q_at q_ends q_fault q_opened q_bentMany q_bentWrong q_moreWorn m_planned m_allWrong m_allWorn m_z m_wishedField m_isFound m_bestWrong m_bestWorn m_bestMany m_soughtBy m_sought m_soughtAt m_foundMany m_foundOrder m_isKept m_imageRows m_imageColumns m_imageFolded m_imageWronged m_bodies m_ran m_ownKind m_ownNumber m_limit m_changeWas m_changeIs q_shapeRows q_shapeColumns q_row q_column q_below q_face q_worn q_lastBend m_tape m_text q_names q_bends q_high q_to q_pileSize m_planLine m_planWay m_way1 m_bestWay m_order1 m_placeIn m_bodyKind m_trace m_shelf m_many m_items m_carried H locs y_0 u_1 y_1 u_3 u_4 u_5 u_6 u_7 u_8 u_9 u_10 u_11 u_12 u_13 u_14 u_15 u_16 u_17 u_18 t_0 z_0 z_1 t_3 t_4 t_5 t_6 t_7 w_0 w_1 hr_2 w_3 w_4 hP hD hS)
set_option maxHeartbeats 8000000 in
set_option maxRecDepth 100000 in
theorem ls_5 {p : Program} {l : Launch} {e : Env} {s : State} {m : MethodId} {below : List Frame} {meth : Method} {c : Code} {D : va_G} {cI cL cS cH : ClassId} {bb : Nat} {a b : Nat → Nat} {cells slots : Nat} {Q : State → Prop} {L : Nat} {xs : Nat → Int32} {x3 : Int32} {ls : Array Slot} (C0 : mm_Cx p s m #[Value.ref bb] meth c RL code 4 ret D (mm_T cI cL cS cH) (fun q => s.heap.size ≤ q)) (hX : va_X bb L xs s s.heap) (hbl : bb < s.heap.size)  (hc1 : cells ≤ room_1.cells) (hc2 : slots ≤ room_1.slots) (hl : lv_has ls 4 [(0, .ref bb), (1, .ref (a 0)), (2, .ref (b 0)), (3, .int x3)]) (K : lw_St p l e s m below meth c D cI cL cS cH bb a b cells slots Q 1391 ls) : lw_St p l e s m below meth c D cI cL cS cH bb a b cells slots Q 319 ls := by
  intro v_hasImage v_now_rows v_now_cols v_now_high v_now_wide v_now_folds v_now_wrong v_now_more v_now_rowOf v_now_colOf v_now_below v_now_face v_now_worn v_now_last v_now_bend v_now_tall v_kept_rows v_kept_cols v_kept_high v_kept_wide v_kept_folds v_kept_wrong v_kept_more v_kept_rowOf v_kept_colOf v_kept_below v_kept_face v_kept_worn v_kept_last v_kept_bend v_kept_tall v_wearing_size v_wearing_stepCount v_wearing_draftCount v_wearing_place v_wearing_fault v_wearing_stacked v_wearing_tape v_wearing_steps v_wearing_draft v_wearing_stack v_planned_size v_planned_trial_rows v_planned_trial_cols v_planned_trial_high v_planned_trial_wide v_planned_trial_folds v_planned_trial_wrong v_planned_trial_more v_planned_trial_rowOf v_planned_trial_colOf v_planned_trial_below v_planned_trial_face v_planned_trial_worn v_planned_trial_last v_planned_trial_bend v_planned_trial_tall v_planned_lines v_planned_ways v_search_found v_search_wrong v_search_more v_search_folds v_search_wanted v_search_levels0_rows v_search_levels0_cols v_search_levels0_high v_search_levels0_wide v_search_levels0_folds v_search_levels0_wrong v_search_levels0_more v_search_levels0_rowOf v_search_levels0_colOf v_search_levels0_below v_search_levels0_face v_search_levels0_worn v_search_levels0_last v_search_levels0_bend v_search_levels0_tall v_search_levels1_rows v_search_levels1_cols v_search_levels1_high v_search_levels1_wide v_search_levels1_folds v_search_levels1_wrong v_search_levels1_more v_search_levels1_rowOf v_search_levels1_colOf v_search_levels1_below v_search_levels1_face v_search_levels1_worn v_search_levels1_last v_search_levels1_bend v_search_levels1_tall v_search_levels2_rows v_search_levels2_cols v_search_levels2_high v_search_levels2_wide v_search_levels2_folds v_search_levels2_wrong v_search_levels2_more v_search_levels2_rowOf v_search_levels2_colOf v_search_levels2_below v_search_levels2_face v_search_levels2_worn v_search_levels2_last v_search_levels2_bend v_search_levels2_tall v_search_levels3_rows v_search_levels3_cols v_search_levels3_high v_search_levels3_wide v_search_levels3_folds v_search_levels3_wrong v_search_levels3_more v_search_levels3_rowOf v_search_levels3_colOf v_search_levels3_below v_search_levels3_face v_search_levels3_worn v_search_levels3_last v_search_levels3_bend v_search_levels3_tall v_search_path v_search_best v_strip_list v_strip_found v_strip_at v_changes_value v_changes_done v_changes_size v_changes_before v_changes_after v_foldings_size v_foldings_ran v_foldings_number v_foldings_kinds v_foldings_trace v_shelves0_holds v_shelves0_body v_shelves0_sort v_shelves0_size v_shelves0_items v_shelves1_holds v_shelves1_body v_shelves1_sort v_shelves1_size v_shelves1_items v_shelves2_holds v_shelves2_body v_shelves2_sort v_shelves2_size v_shelves2_items v_shelves3_holds v_shelves3_body v_shelves3_sort v_shelves3_size v_shelves3_items v_shelves4_holds v_shelves4_body v_shelves4_sort v_shelves4_size v_shelves4_items v_shelves5_holds v_shelves5_body v_shelves5_sort v_shelves5_size v_shelves5_items m_keptMany m_done m_rowsOf m_columnsOf m_folded m_wronged m_tapeMany m_textMany m_base m_at m_ends m_fault m_opened m_bentMany m_bentWrong m_moreWorn m_planned m_allWrong m_allWorn m_z m_wishedField m_isFound m_bestWrong m_bestWorn m_bestMany m_soughtBy m_sought m_soughtAt m_foundMany m_foundOrder m_isKept m_imageRows m_imageColumns m_imageFolded m_imageWronged m_bodies m_ran m_ownKind m_ownNumber m_limit m_changeWas m_changeIs m_shapeRows m_shapeColumns m_row m_column m_below m_face m_worn m_lastBend m_tape m_text m_names m_bends m_high m_to m_pileSize m_planLine m_planWay m_way1 m_bestWay m_order1 m_placeIn m_bodyKind m_trace m_shelf m_many m_items m_carried H locs u_0 u_1 u_2 u_3 u_4 u_5 u_6 u_7 u_8 u_9 u_10 u_11 u_12 u_13 u_14 u_15 u_16 u_17 u_18 t_0 t_1 t_2 t_3 t_4 t_5 t_6 t_7 hr_0 hr_1 hr_2 hr_3 hr_4 hP hD hS
  obtain ⟨r, p_now_high, p_now_wide, p_now_rowOf, p_now_colOf, p_now_below, p_now_face, q_shapeRows, q_shapeColumns, q_row, q_column, q_below, q_face, h8, h9, y_0, z_0, w_0⟩ := rs_flat_ge  u_0 t_1 hr_0
  exact lc_5 C0 hX hbl  h8 h9 hc1 hc2 hP hD hS hl (fun H locs hP hD hS => K v_hasImage v_now_rows v_now_cols p_now_high p_now_wide v_now_folds v_now_wrong v_now_more p_now_rowOf p_now_colOf p_now_below p_now_face v_now_worn v_now_last v_now_bend v_now_tall v_kept_rows v_kept_cols v_kept_high v_kept_wide v_kept_folds v_kept_wrong v_kept_more v_kept_rowOf v_kept_colOf v_kept_below v_kept_face v_kept_worn v_kept_last v_kept_bend v_kept_tall v_wearing_size v_wearing_stepCount v_wearing_draftCount v_wearing_place v_wearing_fault v_wearing_stacked v_wearing_tape v_wearing_steps v_wearing_draft v_wearing_stack v_planned_size v_planned_trial_rows v_planned_trial_cols v_planned_trial_high v_planned_trial_wide v_planned_trial_folds v_planned_trial_wrong v_planned_trial_more v_planned_trial_rowOf v_planned_trial_colOf v_planned_trial_below v_planned_trial_face v_planned_trial_worn v_planned_trial_last v_planned_trial_bend v_planned_trial_tall v_planned_lines v_planned_ways v_search_found v_search_wrong v_search_more v_search_folds v_search_wanted v_search_levels0_rows v_search_levels0_cols v_search_levels0_high v_search_levels0_wide v_search_levels0_folds v_search_levels0_wrong v_search_levels0_more v_search_levels0_rowOf v_search_levels0_colOf v_search_levels0_below v_search_levels0_face v_search_levels0_worn v_search_levels0_last v_search_levels0_bend v_search_levels0_tall v_search_levels1_rows v_search_levels1_cols v_search_levels1_high v_search_levels1_wide v_search_levels1_folds v_search_levels1_wrong v_search_levels1_more v_search_levels1_rowOf v_search_levels1_colOf v_search_levels1_below v_search_levels1_face v_search_levels1_worn v_search_levels1_last v_search_levels1_bend v_search_levels1_tall v_search_levels2_rows v_search_levels2_cols v_search_levels2_high v_search_levels2_wide v_search_levels2_folds v_search_levels2_wrong v_search_levels2_more v_search_levels2_rowOf v_search_levels2_colOf v_search_levels2_below v_search_levels2_face v_search_levels2_worn v_search_levels2_last v_search_levels2_bend v_search_levels2_tall v_search_levels3_rows v_search_levels3_cols v_search_levels3_high v_search_levels3_wide v_search_levels3_folds v_search_levels3_wrong v_search_levels3_more v_search_levels3_rowOf v_search_levels3_colOf v_search_levels3_below v_search_levels3_face v_search_levels3_worn v_search_levels3_last v_search_levels3_bend v_search_levels3_tall v_search_path v_search_best v_strip_list v_strip_found v_strip_at v_changes_value v_changes_done v_changes_size v_changes_before v_changes_after v_foldings_size v_foldings_ran v_foldings_number v_foldings_kinds v_foldings_trace v_shelves0_holds v_shelves0_body v_shelves0_sort v_shelves0_size v_shelves0_items v_shelves1_holds v_shelves1_body v_shelves1_sort v_shelves1_size v_shelves1_items v_shelves2_holds v_shelves2_body v_shelves2_sort v_shelves2_size v_shelves2_items v_shelves3_holds v_shelves3_body v_shelves3_sort v_shelves3_size v_shelves3_items v_shelves4_holds v_shelves4_body v_shelves4_sort v_shelves4_size v_shelves4_items v_shelves5_holds v_shelves5_body v_shelves5_sort v_shelves5_size v_shelves5_items m_keptMany m_done m_rowsOf m_columnsOf m_folded m_wronged m_tapeMany m_textMany m_base m_at m_ends m_fault m_opened m_bentMany m_bentWrong m_moreWorn m_planned m_allWrong m_allWorn m_z m_wishedField m_isFound m_bestWrong m_bestWorn m_bestMany m_soughtBy m_sought m_soughtAt m_foundMany m_foundOrder m_isKept m_imageRows m_imageColumns m_imageFolded m_imageWronged m_bodies m_ran m_ownKind m_ownNumber m_limit m_changeWas m_changeIs q_shapeRows q_shapeColumns q_row q_column q_below q_face m_worn m_lastBend m_tape m_text m_names m_bends m_high m_to m_pileSize m_planLine m_planWay m_way1 m_bestWay m_order1 m_placeIn m_bodyKind m_trace m_shelf m_many m_items m_carried H locs y_0 u_1 u_2 u_3 u_4 u_5 u_6 u_7 u_8 u_9 u_10 u_11 u_12 u_13 u_14 u_15 u_16 u_17 u_18 t_0 z_0 t_2 t_3 t_4 t_5 t_6 t_7 w_0 hr_1 hr_2 hr_3 hr_4 hP hD hS)
set_option maxHeartbeats 8000000 in
set_option maxRecDepth 100000 in
theorem ls_6 {p : Program} {l : Launch} {e : Env} {s : State} {m : MethodId} {below : List Frame} {meth : Method} {c : Code} {D : va_G} {cI cL cS cH : ClassId} {bb : Nat} {a b : Nat → Nat} {cells slots : Nat} {Q : State → Prop} {L : Nat} {xs : Nat → Int32} {x3 : Int32} {ls : Array Slot} (C0 : mm_Cx p s m #[Value.ref bb] meth c RL code 4 ret D (mm_T cI cL cS cH) (fun q => s.heap.size ≤ q)) (hX : va_X bb L xs s s.heap) (hbl : bb < s.heap.size) (hi_1 : vp_in (x3 + (1 : Int32)) L) (hi_2 : vp_in (x3 + (2 : Int32)) L) (hc1 : cells ≤ room_1.cells) (hc2 : slots ≤ room_1.slots) (hl : lv_has ls 4 [(0, .ref bb), (1, .ref (a 0)), (2, .ref (b 0)), (3, .int x3)]) (K : lw_St p l e s m below meth c D cI cL cS cH bb a b cells slots Q 1391 ls) : lw_St p l e s m below meth c D cI cL cS cH bb a b cells slots Q 332 ls := by
  intro v_hasImage v_now_rows v_now_cols v_now_high v_now_wide v_now_folds v_now_wrong v_now_more v_now_rowOf v_now_colOf v_now_below v_now_face v_now_worn v_now_last v_now_bend v_now_tall v_kept_rows v_kept_cols v_kept_high v_kept_wide v_kept_folds v_kept_wrong v_kept_more v_kept_rowOf v_kept_colOf v_kept_below v_kept_face v_kept_worn v_kept_last v_kept_bend v_kept_tall v_wearing_size v_wearing_stepCount v_wearing_draftCount v_wearing_place v_wearing_fault v_wearing_stacked v_wearing_tape v_wearing_steps v_wearing_draft v_wearing_stack v_planned_size v_planned_trial_rows v_planned_trial_cols v_planned_trial_high v_planned_trial_wide v_planned_trial_folds v_planned_trial_wrong v_planned_trial_more v_planned_trial_rowOf v_planned_trial_colOf v_planned_trial_below v_planned_trial_face v_planned_trial_worn v_planned_trial_last v_planned_trial_bend v_planned_trial_tall v_planned_lines v_planned_ways v_search_found v_search_wrong v_search_more v_search_folds v_search_wanted v_search_levels0_rows v_search_levels0_cols v_search_levels0_high v_search_levels0_wide v_search_levels0_folds v_search_levels0_wrong v_search_levels0_more v_search_levels0_rowOf v_search_levels0_colOf v_search_levels0_below v_search_levels0_face v_search_levels0_worn v_search_levels0_last v_search_levels0_bend v_search_levels0_tall v_search_levels1_rows v_search_levels1_cols v_search_levels1_high v_search_levels1_wide v_search_levels1_folds v_search_levels1_wrong v_search_levels1_more v_search_levels1_rowOf v_search_levels1_colOf v_search_levels1_below v_search_levels1_face v_search_levels1_worn v_search_levels1_last v_search_levels1_bend v_search_levels1_tall v_search_levels2_rows v_search_levels2_cols v_search_levels2_high v_search_levels2_wide v_search_levels2_folds v_search_levels2_wrong v_search_levels2_more v_search_levels2_rowOf v_search_levels2_colOf v_search_levels2_below v_search_levels2_face v_search_levels2_worn v_search_levels2_last v_search_levels2_bend v_search_levels2_tall v_search_levels3_rows v_search_levels3_cols v_search_levels3_high v_search_levels3_wide v_search_levels3_folds v_search_levels3_wrong v_search_levels3_more v_search_levels3_rowOf v_search_levels3_colOf v_search_levels3_below v_search_levels3_face v_search_levels3_worn v_search_levels3_last v_search_levels3_bend v_search_levels3_tall v_search_path v_search_best v_strip_list v_strip_found v_strip_at v_changes_value v_changes_done v_changes_size v_changes_before v_changes_after v_foldings_size v_foldings_ran v_foldings_number v_foldings_kinds v_foldings_trace v_shelves0_holds v_shelves0_body v_shelves0_sort v_shelves0_size v_shelves0_items v_shelves1_holds v_shelves1_body v_shelves1_sort v_shelves1_size v_shelves1_items v_shelves2_holds v_shelves2_body v_shelves2_sort v_shelves2_size v_shelves2_items v_shelves3_holds v_shelves3_body v_shelves3_sort v_shelves3_size v_shelves3_items v_shelves4_holds v_shelves4_body v_shelves4_sort v_shelves4_size v_shelves4_items v_shelves5_holds v_shelves5_body v_shelves5_sort v_shelves5_size v_shelves5_items m_keptMany m_done m_rowsOf m_columnsOf m_folded m_wronged m_tapeMany m_textMany m_base m_at m_ends m_fault m_opened m_bentMany m_bentWrong m_moreWorn m_planned m_allWrong m_allWorn m_z m_wishedField m_isFound m_bestWrong m_bestWorn m_bestMany m_soughtBy m_sought m_soughtAt m_foundMany m_foundOrder m_isKept m_imageRows m_imageColumns m_imageFolded m_imageWronged m_bodies m_ran m_ownKind m_ownNumber m_limit m_changeWas m_changeIs m_shapeRows m_shapeColumns m_row m_column m_below m_face m_worn m_lastBend m_tape m_text m_names m_bends m_high m_to m_pileSize m_planLine m_planWay m_way1 m_bestWay m_order1 m_placeIn m_bodyKind m_trace m_shelf m_many m_items m_carried H locs u_0 u_1 u_2 u_3 u_4 u_5 u_6 u_7 u_8 u_9 u_10 u_11 u_12 u_13 u_14 u_15 u_16 u_17 u_18 t_0 t_1 t_2 t_3 t_4 t_5 t_6 t_7 hr_0 hr_1 hr_2 hr_3 hr_4 hP hD hS
  obtain ⟨r8, h8, q8⟩ := st8_crease (x1 := (xs (x3 + (1 : Int32)).toNatClampNeg)) (x2 := (xs (x3 + (2 : Int32)).toNatClampNeg)) (v_changes_value := v_changes_value) u_0
  obtain ⟨r9, h9, q9⟩ := st9_crease (x1 := (xs (x3 + (1 : Int32)).toNatClampNeg)) (x2 := (xs (x3 + (2 : Int32)).toNatClampNeg)) t_0 t_1
  exact lc_6 C0 hX hbl hi_1 rfl hi_2 rfl h8 h9 hc1 hc2 hP hD hS hl (fun H locs hP hD hS => K v_hasImage v_now_rows v_now_cols v_now_high v_now_wide v_now_folds v_now_wrong v_now_more v_now_rowOf v_now_colOf v_now_below v_now_face v_now_worn v_now_last v_now_bend v_now_tall v_kept_rows v_kept_cols v_kept_high v_kept_wide v_kept_folds v_kept_wrong v_kept_more v_kept_rowOf v_kept_colOf v_kept_below v_kept_face v_kept_worn v_kept_last v_kept_bend v_kept_tall v_wearing_size v_wearing_stepCount v_wearing_draftCount v_wearing_place v_wearing_fault v_wearing_stacked v_wearing_tape v_wearing_steps v_wearing_draft v_wearing_stack v_planned_size v_planned_trial_rows v_planned_trial_cols v_planned_trial_high v_planned_trial_wide v_planned_trial_folds v_planned_trial_wrong v_planned_trial_more v_planned_trial_rowOf v_planned_trial_colOf v_planned_trial_below v_planned_trial_face v_planned_trial_worn v_planned_trial_last v_planned_trial_bend v_planned_trial_tall v_planned_lines v_planned_ways v_search_found v_search_wrong v_search_more v_search_folds v_search_wanted v_search_levels0_rows v_search_levels0_cols v_search_levels0_high v_search_levels0_wide v_search_levels0_folds v_search_levels0_wrong v_search_levels0_more v_search_levels0_rowOf v_search_levels0_colOf v_search_levels0_below v_search_levels0_face v_search_levels0_worn v_search_levels0_last v_search_levels0_bend v_search_levels0_tall v_search_levels1_rows v_search_levels1_cols v_search_levels1_high v_search_levels1_wide v_search_levels1_folds v_search_levels1_wrong v_search_levels1_more v_search_levels1_rowOf v_search_levels1_colOf v_search_levels1_below v_search_levels1_face v_search_levels1_worn v_search_levels1_last v_search_levels1_bend v_search_levels1_tall v_search_levels2_rows v_search_levels2_cols v_search_levels2_high v_search_levels2_wide v_search_levels2_folds v_search_levels2_wrong v_search_levels2_more v_search_levels2_rowOf v_search_levels2_colOf v_search_levels2_below v_search_levels2_face v_search_levels2_worn v_search_levels2_last v_search_levels2_bend v_search_levels2_tall v_search_levels3_rows v_search_levels3_cols v_search_levels3_high v_search_levels3_wide v_search_levels3_folds v_search_levels3_wrong v_search_levels3_more v_search_levels3_rowOf v_search_levels3_colOf v_search_levels3_below v_search_levels3_face v_search_levels3_worn v_search_levels3_last v_search_levels3_bend v_search_levels3_tall v_search_path v_search_best v_strip_list v_strip_found v_strip_at v_changes_value v_changes_done v_changes_size v_changes_before v_changes_after v_foldings_size v_foldings_ran v_foldings_number v_foldings_kinds v_foldings_trace v_shelves0_holds v_shelves0_body v_shelves0_sort v_shelves0_size v_shelves0_items v_shelves1_holds v_shelves1_body v_shelves1_sort v_shelves1_size v_shelves1_items v_shelves2_holds v_shelves2_body v_shelves2_sort v_shelves2_size v_shelves2_items v_shelves3_holds v_shelves3_body v_shelves3_sort v_shelves3_size v_shelves3_items v_shelves4_holds v_shelves4_body v_shelves4_sort v_shelves4_size v_shelves4_items v_shelves5_holds v_shelves5_body v_shelves5_sort v_shelves5_size v_shelves5_items m_keptMany m_done m_rowsOf m_columnsOf m_folded m_wronged m_tapeMany m_textMany m_base m_at m_ends m_fault m_opened m_bentMany m_bentWrong m_moreWorn m_planned m_allWrong m_allWorn m_z m_wishedField m_isFound m_bestWrong m_bestWorn m_bestMany m_soughtBy m_sought m_soughtAt m_foundMany m_foundOrder m_isKept m_imageRows m_imageColumns m_imageFolded m_imageWronged m_bodies m_ran m_ownKind m_ownNumber m_limit m_changeWas m_changeIs m_shapeRows m_shapeColumns m_row m_column m_below m_face m_worn m_lastBend m_tape m_text m_names m_bends m_high m_to m_pileSize m_planLine m_planWay m_way1 m_bestWay m_order1 m_placeIn m_bodyKind m_trace m_shelf m_many m_items m_carried H locs u_0 u_1 u_2 u_3 u_4 u_5 u_6 u_7 u_8 u_9 u_10 u_11 u_12 u_13 u_14 u_15 u_16 u_17 u_18 t_0 t_1 t_2 t_3 t_4 t_5 t_6 t_7 hr_0 hr_1 hr_2 hr_3 hr_4 hP hD hS)
set_option maxHeartbeats 8000000 in
set_option maxRecDepth 100000 in
theorem ls_7 {p : Program} {l : Launch} {e : Env} {s : State} {m : MethodId} {below : List Frame} {meth : Method} {c : Code} {D : va_G} {cI cL cS cH : ClassId} {bb : Nat} {a b : Nat → Nat} {cells slots : Nat} {Q : State → Prop} {L : Nat} {xs : Nat → Int32} {x3 : Int32} {ls : Array Slot} (C0 : mm_Cx p s m #[Value.ref bb] meth c RL code 4 ret D (mm_T cI cL cS cH) (fun q => s.heap.size ≤ q)) (hX : va_X bb L xs s s.heap) (hbl : bb < s.heap.size) (hi_1 : vp_in (x3 + (1 : Int32)) L) (hc1 : cells ≤ room_1.cells) (hc2 : slots ≤ room_1.slots) (hl : lv_has ls 4 [(0, .ref bb), (1, .ref (a 0)), (2, .ref (b 0)), (3, .int x3)]) (K : lw_St p l e s m below meth c D cI cL cS cH bb a b cells slots Q 1391 ls) : lw_St p l e s m below meth c D cI cL cS cH bb a b cells slots Q 365 ls := by
  intro v_hasImage v_now_rows v_now_cols v_now_high v_now_wide v_now_folds v_now_wrong v_now_more v_now_rowOf v_now_colOf v_now_below v_now_face v_now_worn v_now_last v_now_bend v_now_tall v_kept_rows v_kept_cols v_kept_high v_kept_wide v_kept_folds v_kept_wrong v_kept_more v_kept_rowOf v_kept_colOf v_kept_below v_kept_face v_kept_worn v_kept_last v_kept_bend v_kept_tall v_wearing_size v_wearing_stepCount v_wearing_draftCount v_wearing_place v_wearing_fault v_wearing_stacked v_wearing_tape v_wearing_steps v_wearing_draft v_wearing_stack v_planned_size v_planned_trial_rows v_planned_trial_cols v_planned_trial_high v_planned_trial_wide v_planned_trial_folds v_planned_trial_wrong v_planned_trial_more v_planned_trial_rowOf v_planned_trial_colOf v_planned_trial_below v_planned_trial_face v_planned_trial_worn v_planned_trial_last v_planned_trial_bend v_planned_trial_tall v_planned_lines v_planned_ways v_search_found v_search_wrong v_search_more v_search_folds v_search_wanted v_search_levels0_rows v_search_levels0_cols v_search_levels0_high v_search_levels0_wide v_search_levels0_folds v_search_levels0_wrong v_search_levels0_more v_search_levels0_rowOf v_search_levels0_colOf v_search_levels0_below v_search_levels0_face v_search_levels0_worn v_search_levels0_last v_search_levels0_bend v_search_levels0_tall v_search_levels1_rows v_search_levels1_cols v_search_levels1_high v_search_levels1_wide v_search_levels1_folds v_search_levels1_wrong v_search_levels1_more v_search_levels1_rowOf v_search_levels1_colOf v_search_levels1_below v_search_levels1_face v_search_levels1_worn v_search_levels1_last v_search_levels1_bend v_search_levels1_tall v_search_levels2_rows v_search_levels2_cols v_search_levels2_high v_search_levels2_wide v_search_levels2_folds v_search_levels2_wrong v_search_levels2_more v_search_levels2_rowOf v_search_levels2_colOf v_search_levels2_below v_search_levels2_face v_search_levels2_worn v_search_levels2_last v_search_levels2_bend v_search_levels2_tall v_search_levels3_rows v_search_levels3_cols v_search_levels3_high v_search_levels3_wide v_search_levels3_folds v_search_levels3_wrong v_search_levels3_more v_search_levels3_rowOf v_search_levels3_colOf v_search_levels3_below v_search_levels3_face v_search_levels3_worn v_search_levels3_last v_search_levels3_bend v_search_levels3_tall v_search_path v_search_best v_strip_list v_strip_found v_strip_at v_changes_value v_changes_done v_changes_size v_changes_before v_changes_after v_foldings_size v_foldings_ran v_foldings_number v_foldings_kinds v_foldings_trace v_shelves0_holds v_shelves0_body v_shelves0_sort v_shelves0_size v_shelves0_items v_shelves1_holds v_shelves1_body v_shelves1_sort v_shelves1_size v_shelves1_items v_shelves2_holds v_shelves2_body v_shelves2_sort v_shelves2_size v_shelves2_items v_shelves3_holds v_shelves3_body v_shelves3_sort v_shelves3_size v_shelves3_items v_shelves4_holds v_shelves4_body v_shelves4_sort v_shelves4_size v_shelves4_items v_shelves5_holds v_shelves5_body v_shelves5_sort v_shelves5_size v_shelves5_items m_keptMany m_done m_rowsOf m_columnsOf m_folded m_wronged m_tapeMany m_textMany m_base m_at m_ends m_fault m_opened m_bentMany m_bentWrong m_moreWorn m_planned m_allWrong m_allWorn m_z m_wishedField m_isFound m_bestWrong m_bestWorn m_bestMany m_soughtBy m_sought m_soughtAt m_foundMany m_foundOrder m_isKept m_imageRows m_imageColumns m_imageFolded m_imageWronged m_bodies m_ran m_ownKind m_ownNumber m_limit m_changeWas m_changeIs m_shapeRows m_shapeColumns m_row m_column m_below m_face m_worn m_lastBend m_tape m_text m_names m_bends m_high m_to m_pileSize m_planLine m_planWay m_way1 m_bestWay m_order1 m_placeIn m_bodyKind m_trace m_shelf m_many m_items m_carried H locs u_0 u_1 u_2 u_3 u_4 u_5 u_6 u_7 u_8 u_9 u_10 u_11 u_12 u_13 u_14 u_15 u_16 u_17 u_18 t_0 t_1 t_2 t_3 t_4 t_5 t_6 t_7 hr_0 hr_1 hr_2 hr_3 hr_4 hP hD hS
  obtain ⟨r8, h8, q8⟩ := st8_shape (x1 := (xs (x3 + (1 : Int32)).toNatClampNeg)) u_0
  obtain ⟨r9, h9, q9⟩ := st9_shape (x1 := (xs (x3 + (1 : Int32)).toNatClampNeg)) t_1
  exact lc_7 C0 hX hbl hi_1 rfl h8 h9 hc1 hc2 hP hD hS hl (fun H locs hP hD hS => K v_hasImage v_now_rows v_now_cols v_now_high v_now_wide v_now_folds v_now_wrong v_now_more v_now_rowOf v_now_colOf v_now_below v_now_face v_now_worn v_now_last v_now_bend v_now_tall v_kept_rows v_kept_cols v_kept_high v_kept_wide v_kept_folds v_kept_wrong v_kept_more v_kept_rowOf v_kept_colOf v_kept_below v_kept_face v_kept_worn v_kept_last v_kept_bend v_kept_tall v_wearing_size v_wearing_stepCount v_wearing_draftCount v_wearing_place v_wearing_fault v_wearing_stacked v_wearing_tape v_wearing_steps v_wearing_draft v_wearing_stack v_planned_size v_planned_trial_rows v_planned_trial_cols v_planned_trial_high v_planned_trial_wide v_planned_trial_folds v_planned_trial_wrong v_planned_trial_more v_planned_trial_rowOf v_planned_trial_colOf v_planned_trial_below v_planned_trial_face v_planned_trial_worn v_planned_trial_last v_planned_trial_bend v_planned_trial_tall v_planned_lines v_planned_ways v_search_found v_search_wrong v_search_more v_search_folds v_search_wanted v_search_levels0_rows v_search_levels0_cols v_search_levels0_high v_search_levels0_wide v_search_levels0_folds v_search_levels0_wrong v_search_levels0_more v_search_levels0_rowOf v_search_levels0_colOf v_search_levels0_below v_search_levels0_face v_search_levels0_worn v_search_levels0_last v_search_levels0_bend v_search_levels0_tall v_search_levels1_rows v_search_levels1_cols v_search_levels1_high v_search_levels1_wide v_search_levels1_folds v_search_levels1_wrong v_search_levels1_more v_search_levels1_rowOf v_search_levels1_colOf v_search_levels1_below v_search_levels1_face v_search_levels1_worn v_search_levels1_last v_search_levels1_bend v_search_levels1_tall v_search_levels2_rows v_search_levels2_cols v_search_levels2_high v_search_levels2_wide v_search_levels2_folds v_search_levels2_wrong v_search_levels2_more v_search_levels2_rowOf v_search_levels2_colOf v_search_levels2_below v_search_levels2_face v_search_levels2_worn v_search_levels2_last v_search_levels2_bend v_search_levels2_tall v_search_levels3_rows v_search_levels3_cols v_search_levels3_high v_search_levels3_wide v_search_levels3_folds v_search_levels3_wrong v_search_levels3_more v_search_levels3_rowOf v_search_levels3_colOf v_search_levels3_below v_search_levels3_face v_search_levels3_worn v_search_levels3_last v_search_levels3_bend v_search_levels3_tall v_search_path v_search_best v_strip_list v_strip_found v_strip_at v_changes_value v_changes_done v_changes_size v_changes_before v_changes_after v_foldings_size v_foldings_ran v_foldings_number v_foldings_kinds v_foldings_trace v_shelves0_holds v_shelves0_body v_shelves0_sort v_shelves0_size v_shelves0_items v_shelves1_holds v_shelves1_body v_shelves1_sort v_shelves1_size v_shelves1_items v_shelves2_holds v_shelves2_body v_shelves2_sort v_shelves2_size v_shelves2_items v_shelves3_holds v_shelves3_body v_shelves3_sort v_shelves3_size v_shelves3_items v_shelves4_holds v_shelves4_body v_shelves4_sort v_shelves4_size v_shelves4_items v_shelves5_holds v_shelves5_body v_shelves5_sort v_shelves5_size v_shelves5_items m_keptMany m_done m_rowsOf m_columnsOf m_folded m_wronged m_tapeMany m_textMany m_base m_at m_ends m_fault m_opened m_bentMany m_bentWrong m_moreWorn m_planned m_allWrong m_allWorn m_z m_wishedField m_isFound m_bestWrong m_bestWorn m_bestMany m_soughtBy m_sought m_soughtAt m_foundMany m_foundOrder m_isKept m_imageRows m_imageColumns m_imageFolded m_imageWronged m_bodies m_ran m_ownKind m_ownNumber m_limit m_changeWas m_changeIs m_shapeRows m_shapeColumns m_row m_column m_below m_face m_worn m_lastBend m_tape m_text m_names m_bends m_high m_to m_pileSize m_planLine m_planWay m_way1 m_bestWay m_order1 m_placeIn m_bodyKind m_trace m_shelf m_many m_items m_carried H locs u_0 u_1 u_2 u_3 u_4 u_5 u_6 u_7 u_8 u_9 u_10 u_11 u_12 u_13 u_14 u_15 u_16 u_17 u_18 t_0 t_1 t_2 t_3 t_4 t_5 t_6 t_7 hr_0 hr_1 hr_2 hr_3 hr_4 hP hD hS)
end
section
/-! The law's cases, over every state -/
set_option maxHeartbeats 8000000 in
set_option maxRecDepth 100000 in
theorem ls_8 {p : Program} {l : Launch} {e : Env} {s : State} {m : MethodId} {below : List Frame} {meth : Method} {c : Code} {D : va_G} {cI cL cS cH : ClassId} {bb : Nat} {a b : Nat → Nat} {cells slots : Nat} {Q : State → Prop} {L : Nat} {xs : Nat → Int32} {x3 : Int32} {ls : Array Slot} (C0 : mm_Cx p s m #[Value.ref bb] meth c RL code 4 ret D (mm_T cI cL cS cH) (fun q => s.heap.size ≤ q)) (hX : va_X bb L xs s s.heap) (hbl : bb < s.heap.size) (hi_1 : vp_in (x3 + (1 : Int32)) L) (hi_2 : vp_in (x3 + (2 : Int32)) L) (hc1 : cells ≤ room_1.cells) (hc2 : slots ≤ room_1.slots) (hl : lv_has ls 4 [(0, .ref bb), (1, .ref (a 0)), (2, .ref (b 0)), (3, .int x3)]) (K : lw_St p l e s m below meth c D cI cL cS cH bb a b cells slots Q 1391 ls) : lw_St p l e s m below meth c D cI cL cS cH bb a b cells slots Q 388 ls := by
  intro v_hasImage v_now_rows v_now_cols v_now_high v_now_wide v_now_folds v_now_wrong v_now_more v_now_rowOf v_now_colOf v_now_below v_now_face v_now_worn v_now_last v_now_bend v_now_tall v_kept_rows v_kept_cols v_kept_high v_kept_wide v_kept_folds v_kept_wrong v_kept_more v_kept_rowOf v_kept_colOf v_kept_below v_kept_face v_kept_worn v_kept_last v_kept_bend v_kept_tall v_wearing_size v_wearing_stepCount v_wearing_draftCount v_wearing_place v_wearing_fault v_wearing_stacked v_wearing_tape v_wearing_steps v_wearing_draft v_wearing_stack v_planned_size v_planned_trial_rows v_planned_trial_cols v_planned_trial_high v_planned_trial_wide v_planned_trial_folds v_planned_trial_wrong v_planned_trial_more v_planned_trial_rowOf v_planned_trial_colOf v_planned_trial_below v_planned_trial_face v_planned_trial_worn v_planned_trial_last v_planned_trial_bend v_planned_trial_tall v_planned_lines v_planned_ways v_search_found v_search_wrong v_search_more v_search_folds v_search_wanted v_search_levels0_rows v_search_levels0_cols v_search_levels0_high v_search_levels0_wide v_search_levels0_folds v_search_levels0_wrong v_search_levels0_more v_search_levels0_rowOf v_search_levels0_colOf v_search_levels0_below v_search_levels0_face v_search_levels0_worn v_search_levels0_last v_search_levels0_bend v_search_levels0_tall v_search_levels1_rows v_search_levels1_cols v_search_levels1_high v_search_levels1_wide v_search_levels1_folds v_search_levels1_wrong v_search_levels1_more v_search_levels1_rowOf v_search_levels1_colOf v_search_levels1_below v_search_levels1_face v_search_levels1_worn v_search_levels1_last v_search_levels1_bend v_search_levels1_tall v_search_levels2_rows v_search_levels2_cols v_search_levels2_high v_search_levels2_wide v_search_levels2_folds v_search_levels2_wrong v_search_levels2_more v_search_levels2_rowOf v_search_levels2_colOf v_search_levels2_below v_search_levels2_face v_search_levels2_worn v_search_levels2_last v_search_levels2_bend v_search_levels2_tall v_search_levels3_rows v_search_levels3_cols v_search_levels3_high v_search_levels3_wide v_search_levels3_folds v_search_levels3_wrong v_search_levels3_more v_search_levels3_rowOf v_search_levels3_colOf v_search_levels3_below v_search_levels3_face v_search_levels3_worn v_search_levels3_last v_search_levels3_bend v_search_levels3_tall v_search_path v_search_best v_strip_list v_strip_found v_strip_at v_changes_value v_changes_done v_changes_size v_changes_before v_changes_after v_foldings_size v_foldings_ran v_foldings_number v_foldings_kinds v_foldings_trace v_shelves0_holds v_shelves0_body v_shelves0_sort v_shelves0_size v_shelves0_items v_shelves1_holds v_shelves1_body v_shelves1_sort v_shelves1_size v_shelves1_items v_shelves2_holds v_shelves2_body v_shelves2_sort v_shelves2_size v_shelves2_items v_shelves3_holds v_shelves3_body v_shelves3_sort v_shelves3_size v_shelves3_items v_shelves4_holds v_shelves4_body v_shelves4_sort v_shelves4_size v_shelves4_items v_shelves5_holds v_shelves5_body v_shelves5_sort v_shelves5_size v_shelves5_items m_keptMany m_done m_rowsOf m_columnsOf m_folded m_wronged m_tapeMany m_textMany m_base m_at m_ends m_fault m_opened m_bentMany m_bentWrong m_moreWorn m_planned m_allWrong m_allWorn m_z m_wishedField m_isFound m_bestWrong m_bestWorn m_bestMany m_soughtBy m_sought m_soughtAt m_foundMany m_foundOrder m_isKept m_imageRows m_imageColumns m_imageFolded m_imageWronged m_bodies m_ran m_ownKind m_ownNumber m_limit m_changeWas m_changeIs m_shapeRows m_shapeColumns m_row m_column m_below m_face m_worn m_lastBend m_tape m_text m_names m_bends m_high m_to m_pileSize m_planLine m_planWay m_way1 m_bestWay m_order1 m_placeIn m_bodyKind m_trace m_shelf m_many m_items m_carried H locs u_0 u_1 u_2 u_3 u_4 u_5 u_6 u_7 u_8 u_9 u_10 u_11 u_12 u_13 u_14 u_15 u_16 u_17 u_18 t_0 t_1 t_2 t_3 t_4 t_5 t_6 t_7 hr_0 hr_1 hr_2 hr_3 hr_4 hP hD hS
  obtain ⟨r8, h8, q8⟩ := st8_where (x1 := (xs (x3 + (1 : Int32)).toNatClampNeg)) (x2 := (xs (x3 + (2 : Int32)).toNatClampNeg)) u_0
  obtain ⟨r9, h9, q9⟩ := st9_where (x1 := (xs (x3 + (1 : Int32)).toNatClampNeg)) (x2 := (xs (x3 + (2 : Int32)).toNatClampNeg)) t_1
  exact lc_8 C0 hX hbl hi_1 rfl hi_2 rfl h8 h9 hc1 hc2 hP hD hS hl (fun H locs hP hD hS => K v_hasImage v_now_rows v_now_cols v_now_high v_now_wide v_now_folds v_now_wrong v_now_more v_now_rowOf v_now_colOf v_now_below v_now_face v_now_worn v_now_last v_now_bend v_now_tall v_kept_rows v_kept_cols v_kept_high v_kept_wide v_kept_folds v_kept_wrong v_kept_more v_kept_rowOf v_kept_colOf v_kept_below v_kept_face v_kept_worn v_kept_last v_kept_bend v_kept_tall v_wearing_size v_wearing_stepCount v_wearing_draftCount v_wearing_place v_wearing_fault v_wearing_stacked v_wearing_tape v_wearing_steps v_wearing_draft v_wearing_stack v_planned_size v_planned_trial_rows v_planned_trial_cols v_planned_trial_high v_planned_trial_wide v_planned_trial_folds v_planned_trial_wrong v_planned_trial_more v_planned_trial_rowOf v_planned_trial_colOf v_planned_trial_below v_planned_trial_face v_planned_trial_worn v_planned_trial_last v_planned_trial_bend v_planned_trial_tall v_planned_lines v_planned_ways v_search_found v_search_wrong v_search_more v_search_folds v_search_wanted v_search_levels0_rows v_search_levels0_cols v_search_levels0_high v_search_levels0_wide v_search_levels0_folds v_search_levels0_wrong v_search_levels0_more v_search_levels0_rowOf v_search_levels0_colOf v_search_levels0_below v_search_levels0_face v_search_levels0_worn v_search_levels0_last v_search_levels0_bend v_search_levels0_tall v_search_levels1_rows v_search_levels1_cols v_search_levels1_high v_search_levels1_wide v_search_levels1_folds v_search_levels1_wrong v_search_levels1_more v_search_levels1_rowOf v_search_levels1_colOf v_search_levels1_below v_search_levels1_face v_search_levels1_worn v_search_levels1_last v_search_levels1_bend v_search_levels1_tall v_search_levels2_rows v_search_levels2_cols v_search_levels2_high v_search_levels2_wide v_search_levels2_folds v_search_levels2_wrong v_search_levels2_more v_search_levels2_rowOf v_search_levels2_colOf v_search_levels2_below v_search_levels2_face v_search_levels2_worn v_search_levels2_last v_search_levels2_bend v_search_levels2_tall v_search_levels3_rows v_search_levels3_cols v_search_levels3_high v_search_levels3_wide v_search_levels3_folds v_search_levels3_wrong v_search_levels3_more v_search_levels3_rowOf v_search_levels3_colOf v_search_levels3_below v_search_levels3_face v_search_levels3_worn v_search_levels3_last v_search_levels3_bend v_search_levels3_tall v_search_path v_search_best v_strip_list v_strip_found v_strip_at v_changes_value v_changes_done v_changes_size v_changes_before v_changes_after v_foldings_size v_foldings_ran v_foldings_number v_foldings_kinds v_foldings_trace v_shelves0_holds v_shelves0_body v_shelves0_sort v_shelves0_size v_shelves0_items v_shelves1_holds v_shelves1_body v_shelves1_sort v_shelves1_size v_shelves1_items v_shelves2_holds v_shelves2_body v_shelves2_sort v_shelves2_size v_shelves2_items v_shelves3_holds v_shelves3_body v_shelves3_sort v_shelves3_size v_shelves3_items v_shelves4_holds v_shelves4_body v_shelves4_sort v_shelves4_size v_shelves4_items v_shelves5_holds v_shelves5_body v_shelves5_sort v_shelves5_size v_shelves5_items m_keptMany m_done m_rowsOf m_columnsOf m_folded m_wronged m_tapeMany m_textMany m_base m_at m_ends m_fault m_opened m_bentMany m_bentWrong m_moreWorn m_planned m_allWrong m_allWorn m_z m_wishedField m_isFound m_bestWrong m_bestWorn m_bestMany m_soughtBy m_sought m_soughtAt m_foundMany m_foundOrder m_isKept m_imageRows m_imageColumns m_imageFolded m_imageWronged m_bodies m_ran m_ownKind m_ownNumber m_limit m_changeWas m_changeIs m_shapeRows m_shapeColumns m_row m_column m_below m_face m_worn m_lastBend m_tape m_text m_names m_bends m_high m_to m_pileSize m_planLine m_planWay m_way1 m_bestWay m_order1 m_placeIn m_bodyKind m_trace m_shelf m_many m_items m_carried H locs u_0 u_1 u_2 u_3 u_4 u_5 u_6 u_7 u_8 u_9 u_10 u_11 u_12 u_13 u_14 u_15 u_16 u_17 u_18 t_0 t_1 t_2 t_3 t_4 t_5 t_6 t_7 hr_0 hr_1 hr_2 hr_3 hr_4 hP hD hS)
set_option maxHeartbeats 8000000 in
set_option maxRecDepth 100000 in
theorem ls_9 {p : Program} {l : Launch} {e : Env} {s : State} {m : MethodId} {below : List Frame} {meth : Method} {c : Code} {D : va_G} {cI cL cS cH : ClassId} {bb : Nat} {a b : Nat → Nat} {cells slots : Nat} {Q : State → Prop} {L : Nat} {xs : Nat → Int32} {x3 : Int32} {ls : Array Slot} (C0 : mm_Cx p s m #[Value.ref bb] meth c RL code 4 ret D (mm_T cI cL cS cH) (fun q => s.heap.size ≤ q)) (hX : va_X bb L xs s s.heap) (hbl : bb < s.heap.size) (hi_1 : vp_in (x3 + (1 : Int32)) L) (hi_2 : vp_in (x3 + (2 : Int32)) L) (hc1 : cells ≤ room_1.cells) (hc2 : slots ≤ room_1.slots) (hl : lv_has ls 4 [(0, .ref bb), (1, .ref (a 0)), (2, .ref (b 0)), (3, .int x3)]) (K : lw_St p l e s m below meth c D cI cL cS cH bb a b cells slots Q 1391 ls) : lw_St p l e s m below meth c D cI cL cS cH bb a b cells slots Q 421 ls := by
  intro v_hasImage v_now_rows v_now_cols v_now_high v_now_wide v_now_folds v_now_wrong v_now_more v_now_rowOf v_now_colOf v_now_below v_now_face v_now_worn v_now_last v_now_bend v_now_tall v_kept_rows v_kept_cols v_kept_high v_kept_wide v_kept_folds v_kept_wrong v_kept_more v_kept_rowOf v_kept_colOf v_kept_below v_kept_face v_kept_worn v_kept_last v_kept_bend v_kept_tall v_wearing_size v_wearing_stepCount v_wearing_draftCount v_wearing_place v_wearing_fault v_wearing_stacked v_wearing_tape v_wearing_steps v_wearing_draft v_wearing_stack v_planned_size v_planned_trial_rows v_planned_trial_cols v_planned_trial_high v_planned_trial_wide v_planned_trial_folds v_planned_trial_wrong v_planned_trial_more v_planned_trial_rowOf v_planned_trial_colOf v_planned_trial_below v_planned_trial_face v_planned_trial_worn v_planned_trial_last v_planned_trial_bend v_planned_trial_tall v_planned_lines v_planned_ways v_search_found v_search_wrong v_search_more v_search_folds v_search_wanted v_search_levels0_rows v_search_levels0_cols v_search_levels0_high v_search_levels0_wide v_search_levels0_folds v_search_levels0_wrong v_search_levels0_more v_search_levels0_rowOf v_search_levels0_colOf v_search_levels0_below v_search_levels0_face v_search_levels0_worn v_search_levels0_last v_search_levels0_bend v_search_levels0_tall v_search_levels1_rows v_search_levels1_cols v_search_levels1_high v_search_levels1_wide v_search_levels1_folds v_search_levels1_wrong v_search_levels1_more v_search_levels1_rowOf v_search_levels1_colOf v_search_levels1_below v_search_levels1_face v_search_levels1_worn v_search_levels1_last v_search_levels1_bend v_search_levels1_tall v_search_levels2_rows v_search_levels2_cols v_search_levels2_high v_search_levels2_wide v_search_levels2_folds v_search_levels2_wrong v_search_levels2_more v_search_levels2_rowOf v_search_levels2_colOf v_search_levels2_below v_search_levels2_face v_search_levels2_worn v_search_levels2_last v_search_levels2_bend v_search_levels2_tall v_search_levels3_rows v_search_levels3_cols v_search_levels3_high v_search_levels3_wide v_search_levels3_folds v_search_levels3_wrong v_search_levels3_more v_search_levels3_rowOf v_search_levels3_colOf v_search_levels3_below v_search_levels3_face v_search_levels3_worn v_search_levels3_last v_search_levels3_bend v_search_levels3_tall v_search_path v_search_best v_strip_list v_strip_found v_strip_at v_changes_value v_changes_done v_changes_size v_changes_before v_changes_after v_foldings_size v_foldings_ran v_foldings_number v_foldings_kinds v_foldings_trace v_shelves0_holds v_shelves0_body v_shelves0_sort v_shelves0_size v_shelves0_items v_shelves1_holds v_shelves1_body v_shelves1_sort v_shelves1_size v_shelves1_items v_shelves2_holds v_shelves2_body v_shelves2_sort v_shelves2_size v_shelves2_items v_shelves3_holds v_shelves3_body v_shelves3_sort v_shelves3_size v_shelves3_items v_shelves4_holds v_shelves4_body v_shelves4_sort v_shelves4_size v_shelves4_items v_shelves5_holds v_shelves5_body v_shelves5_sort v_shelves5_size v_shelves5_items m_keptMany m_done m_rowsOf m_columnsOf m_folded m_wronged m_tapeMany m_textMany m_base m_at m_ends m_fault m_opened m_bentMany m_bentWrong m_moreWorn m_planned m_allWrong m_allWorn m_z m_wishedField m_isFound m_bestWrong m_bestWorn m_bestMany m_soughtBy m_sought m_soughtAt m_foundMany m_foundOrder m_isKept m_imageRows m_imageColumns m_imageFolded m_imageWronged m_bodies m_ran m_ownKind m_ownNumber m_limit m_changeWas m_changeIs m_shapeRows m_shapeColumns m_row m_column m_below m_face m_worn m_lastBend m_tape m_text m_names m_bends m_high m_to m_pileSize m_planLine m_planWay m_way1 m_bestWay m_order1 m_placeIn m_bodyKind m_trace m_shelf m_many m_items m_carried H locs u_0 u_1 u_2 u_3 u_4 u_5 u_6 u_7 u_8 u_9 u_10 u_11 u_12 u_13 u_14 u_15 u_16 u_17 u_18 t_0 t_1 t_2 t_3 t_4 t_5 t_6 t_7 hr_0 hr_1 hr_2 hr_3 hr_4 hP hD hS
  obtain ⟨r8, h8, q8⟩ := st8_pile (x1 := (xs (x3 + (1 : Int32)).toNatClampNeg)) (x2 := (xs (x3 + (2 : Int32)).toNatClampNeg)) u_0
  obtain ⟨r9, h9, q9⟩ := st9_pile (x1 := (xs (x3 + (1 : Int32)).toNatClampNeg)) (x2 := (xs (x3 + (2 : Int32)).toNatClampNeg)) t_1
  exact lc_9 C0 hX hbl hi_1 rfl hi_2 rfl h8 h9 hc1 hc2 hP hD hS hl (fun H locs hP hD hS => K v_hasImage v_now_rows v_now_cols v_now_high v_now_wide v_now_folds v_now_wrong v_now_more v_now_rowOf v_now_colOf v_now_below v_now_face v_now_worn v_now_last v_now_bend v_now_tall v_kept_rows v_kept_cols v_kept_high v_kept_wide v_kept_folds v_kept_wrong v_kept_more v_kept_rowOf v_kept_colOf v_kept_below v_kept_face v_kept_worn v_kept_last v_kept_bend v_kept_tall v_wearing_size v_wearing_stepCount v_wearing_draftCount v_wearing_place v_wearing_fault v_wearing_stacked v_wearing_tape v_wearing_steps v_wearing_draft v_wearing_stack v_planned_size v_planned_trial_rows v_planned_trial_cols v_planned_trial_high v_planned_trial_wide v_planned_trial_folds v_planned_trial_wrong v_planned_trial_more v_planned_trial_rowOf v_planned_trial_colOf v_planned_trial_below v_planned_trial_face v_planned_trial_worn v_planned_trial_last v_planned_trial_bend v_planned_trial_tall v_planned_lines v_planned_ways v_search_found v_search_wrong v_search_more v_search_folds v_search_wanted v_search_levels0_rows v_search_levels0_cols v_search_levels0_high v_search_levels0_wide v_search_levels0_folds v_search_levels0_wrong v_search_levels0_more v_search_levels0_rowOf v_search_levels0_colOf v_search_levels0_below v_search_levels0_face v_search_levels0_worn v_search_levels0_last v_search_levels0_bend v_search_levels0_tall v_search_levels1_rows v_search_levels1_cols v_search_levels1_high v_search_levels1_wide v_search_levels1_folds v_search_levels1_wrong v_search_levels1_more v_search_levels1_rowOf v_search_levels1_colOf v_search_levels1_below v_search_levels1_face v_search_levels1_worn v_search_levels1_last v_search_levels1_bend v_search_levels1_tall v_search_levels2_rows v_search_levels2_cols v_search_levels2_high v_search_levels2_wide v_search_levels2_folds v_search_levels2_wrong v_search_levels2_more v_search_levels2_rowOf v_search_levels2_colOf v_search_levels2_below v_search_levels2_face v_search_levels2_worn v_search_levels2_last v_search_levels2_bend v_search_levels2_tall v_search_levels3_rows v_search_levels3_cols v_search_levels3_high v_search_levels3_wide v_search_levels3_folds v_search_levels3_wrong v_search_levels3_more v_search_levels3_rowOf v_search_levels3_colOf v_search_levels3_below v_search_levels3_face v_search_levels3_worn v_search_levels3_last v_search_levels3_bend v_search_levels3_tall v_search_path v_search_best v_strip_list v_strip_found v_strip_at v_changes_value v_changes_done v_changes_size v_changes_before v_changes_after v_foldings_size v_foldings_ran v_foldings_number v_foldings_kinds v_foldings_trace v_shelves0_holds v_shelves0_body v_shelves0_sort v_shelves0_size v_shelves0_items v_shelves1_holds v_shelves1_body v_shelves1_sort v_shelves1_size v_shelves1_items v_shelves2_holds v_shelves2_body v_shelves2_sort v_shelves2_size v_shelves2_items v_shelves3_holds v_shelves3_body v_shelves3_sort v_shelves3_size v_shelves3_items v_shelves4_holds v_shelves4_body v_shelves4_sort v_shelves4_size v_shelves4_items v_shelves5_holds v_shelves5_body v_shelves5_sort v_shelves5_size v_shelves5_items m_keptMany m_done m_rowsOf m_columnsOf m_folded m_wronged m_tapeMany m_textMany m_base m_at m_ends m_fault m_opened m_bentMany m_bentWrong m_moreWorn m_planned m_allWrong m_allWorn m_z m_wishedField m_isFound m_bestWrong m_bestWorn m_bestMany m_soughtBy m_sought m_soughtAt m_foundMany m_foundOrder m_isKept m_imageRows m_imageColumns m_imageFolded m_imageWronged m_bodies m_ran m_ownKind m_ownNumber m_limit m_changeWas m_changeIs m_shapeRows m_shapeColumns m_row m_column m_below m_face m_worn m_lastBend m_tape m_text m_names m_bends m_high m_to m_pileSize m_planLine m_planWay m_way1 m_bestWay m_order1 m_placeIn m_bodyKind m_trace m_shelf m_many m_items m_carried H locs u_0 u_1 u_2 u_3 u_4 u_5 u_6 u_7 u_8 u_9 u_10 u_11 u_12 u_13 u_14 u_15 u_16 u_17 u_18 t_0 t_1 t_2 t_3 t_4 t_5 t_6 t_7 hr_0 hr_1 hr_2 hr_3 hr_4 hP hD hS)
set_option maxHeartbeats 8000000 in
set_option maxRecDepth 100000 in
theorem ls_10 {p : Program} {l : Launch} {e : Env} {s : State} {m : MethodId} {below : List Frame} {meth : Method} {c : Code} {D : va_G} {cI cL cS cH : ClassId} {bb : Nat} {a b : Nat → Nat} {cells slots : Nat} {Q : State → Prop} {L : Nat} {xs : Nat → Int32} {x3 : Int32} {ls : Array Slot} (C0 : mm_Cx p s m #[Value.ref bb] meth c RL code 4 ret D (mm_T cI cL cS cH) (fun q => s.heap.size ≤ q)) (hX : va_X bb L xs s s.heap) (hbl : bb < s.heap.size) (hi_1 : vp_in (x3 + (1 : Int32)) L) (hc1 : cells ≤ room_1.cells) (hc2 : slots ≤ room_1.slots) (hl : lv_has ls 4 [(0, .ref bb), (1, .ref (a 0)), (2, .ref (b 0)), (3, .int x3)]) (K : lw_St p l e s m below meth c D cI cL cS cH bb a b cells slots Q 1391 ls) : lw_St p l e s m below meth c D cI cL cS cH bb a b cells slots Q 454 ls := by
  intro v_hasImage v_now_rows v_now_cols v_now_high v_now_wide v_now_folds v_now_wrong v_now_more v_now_rowOf v_now_colOf v_now_below v_now_face v_now_worn v_now_last v_now_bend v_now_tall v_kept_rows v_kept_cols v_kept_high v_kept_wide v_kept_folds v_kept_wrong v_kept_more v_kept_rowOf v_kept_colOf v_kept_below v_kept_face v_kept_worn v_kept_last v_kept_bend v_kept_tall v_wearing_size v_wearing_stepCount v_wearing_draftCount v_wearing_place v_wearing_fault v_wearing_stacked v_wearing_tape v_wearing_steps v_wearing_draft v_wearing_stack v_planned_size v_planned_trial_rows v_planned_trial_cols v_planned_trial_high v_planned_trial_wide v_planned_trial_folds v_planned_trial_wrong v_planned_trial_more v_planned_trial_rowOf v_planned_trial_colOf v_planned_trial_below v_planned_trial_face v_planned_trial_worn v_planned_trial_last v_planned_trial_bend v_planned_trial_tall v_planned_lines v_planned_ways v_search_found v_search_wrong v_search_more v_search_folds v_search_wanted v_search_levels0_rows v_search_levels0_cols v_search_levels0_high v_search_levels0_wide v_search_levels0_folds v_search_levels0_wrong v_search_levels0_more v_search_levels0_rowOf v_search_levels0_colOf v_search_levels0_below v_search_levels0_face v_search_levels0_worn v_search_levels0_last v_search_levels0_bend v_search_levels0_tall v_search_levels1_rows v_search_levels1_cols v_search_levels1_high v_search_levels1_wide v_search_levels1_folds v_search_levels1_wrong v_search_levels1_more v_search_levels1_rowOf v_search_levels1_colOf v_search_levels1_below v_search_levels1_face v_search_levels1_worn v_search_levels1_last v_search_levels1_bend v_search_levels1_tall v_search_levels2_rows v_search_levels2_cols v_search_levels2_high v_search_levels2_wide v_search_levels2_folds v_search_levels2_wrong v_search_levels2_more v_search_levels2_rowOf v_search_levels2_colOf v_search_levels2_below v_search_levels2_face v_search_levels2_worn v_search_levels2_last v_search_levels2_bend v_search_levels2_tall v_search_levels3_rows v_search_levels3_cols v_search_levels3_high v_search_levels3_wide v_search_levels3_folds v_search_levels3_wrong v_search_levels3_more v_search_levels3_rowOf v_search_levels3_colOf v_search_levels3_below v_search_levels3_face v_search_levels3_worn v_search_levels3_last v_search_levels3_bend v_search_levels3_tall v_search_path v_search_best v_strip_list v_strip_found v_strip_at v_changes_value v_changes_done v_changes_size v_changes_before v_changes_after v_foldings_size v_foldings_ran v_foldings_number v_foldings_kinds v_foldings_trace v_shelves0_holds v_shelves0_body v_shelves0_sort v_shelves0_size v_shelves0_items v_shelves1_holds v_shelves1_body v_shelves1_sort v_shelves1_size v_shelves1_items v_shelves2_holds v_shelves2_body v_shelves2_sort v_shelves2_size v_shelves2_items v_shelves3_holds v_shelves3_body v_shelves3_sort v_shelves3_size v_shelves3_items v_shelves4_holds v_shelves4_body v_shelves4_sort v_shelves4_size v_shelves4_items v_shelves5_holds v_shelves5_body v_shelves5_sort v_shelves5_size v_shelves5_items m_keptMany m_done m_rowsOf m_columnsOf m_folded m_wronged m_tapeMany m_textMany m_base m_at m_ends m_fault m_opened m_bentMany m_bentWrong m_moreWorn m_planned m_allWrong m_allWorn m_z m_wishedField m_isFound m_bestWrong m_bestWorn m_bestMany m_soughtBy m_sought m_soughtAt m_foundMany m_foundOrder m_isKept m_imageRows m_imageColumns m_imageFolded m_imageWronged m_bodies m_ran m_ownKind m_ownNumber m_limit m_changeWas m_changeIs m_shapeRows m_shapeColumns m_row m_column m_below m_face m_worn m_lastBend m_tape m_text m_names m_bends m_high m_to m_pileSize m_planLine m_planWay m_way1 m_bestWay m_order1 m_placeIn m_bodyKind m_trace m_shelf m_many m_items m_carried H locs u_0 u_1 u_2 u_3 u_4 u_5 u_6 u_7 u_8 u_9 u_10 u_11 u_12 u_13 u_14 u_15 u_16 u_17 u_18 t_0 t_1 t_2 t_3 t_4 t_5 t_6 t_7 hr_0 hr_1 hr_2 hr_3 hr_4 hP hD hS
  obtain ⟨r, h8, h9, w_0, w_1, w_4⟩ := rs_led (x1 := (xs (x3 + (1 : Int32)).toNatClampNeg)) (v_now_folds := v_now_folds) (v_now_wrong := v_now_wrong) (v_changes_value := v_changes_value) (m_folded := m_folded) (m_wronged := m_wronged) u_0 t_0 t_1 hr_0 hr_1 hr_4
  exact lc_10 C0 hX hbl hi_1 rfl h8 h9 hc1 hc2 hP hD hS hl (fun H locs hP hD hS => K v_hasImage v_now_rows v_now_cols v_now_high v_now_wide v_now_folds v_now_wrong v_now_more v_now_rowOf v_now_colOf v_now_below v_now_face v_now_worn v_now_last v_now_bend v_now_tall v_kept_rows v_kept_cols v_kept_high v_kept_wide v_kept_folds v_kept_wrong v_kept_more v_kept_rowOf v_kept_colOf v_kept_below v_kept_face v_kept_worn v_kept_last v_kept_bend v_kept_tall v_wearing_size v_wearing_stepCount v_wearing_draftCount v_wearing_place v_wearing_fault v_wearing_stacked v_wearing_tape v_wearing_steps v_wearing_draft v_wearing_stack v_planned_size v_planned_trial_rows v_planned_trial_cols v_planned_trial_high v_planned_trial_wide v_planned_trial_folds v_planned_trial_wrong v_planned_trial_more v_planned_trial_rowOf v_planned_trial_colOf v_planned_trial_below v_planned_trial_face v_planned_trial_worn v_planned_trial_last v_planned_trial_bend v_planned_trial_tall v_planned_lines v_planned_ways v_search_found v_search_wrong v_search_more v_search_folds v_search_wanted v_search_levels0_rows v_search_levels0_cols v_search_levels0_high v_search_levels0_wide v_search_levels0_folds v_search_levels0_wrong v_search_levels0_more v_search_levels0_rowOf v_search_levels0_colOf v_search_levels0_below v_search_levels0_face v_search_levels0_worn v_search_levels0_last v_search_levels0_bend v_search_levels0_tall v_search_levels1_rows v_search_levels1_cols v_search_levels1_high v_search_levels1_wide v_search_levels1_folds v_search_levels1_wrong v_search_levels1_more v_search_levels1_rowOf v_search_levels1_colOf v_search_levels1_below v_search_levels1_face v_search_levels1_worn v_search_levels1_last v_search_levels1_bend v_search_levels1_tall v_search_levels2_rows v_search_levels2_cols v_search_levels2_high v_search_levels2_wide v_search_levels2_folds v_search_levels2_wrong v_search_levels2_more v_search_levels2_rowOf v_search_levels2_colOf v_search_levels2_below v_search_levels2_face v_search_levels2_worn v_search_levels2_last v_search_levels2_bend v_search_levels2_tall v_search_levels3_rows v_search_levels3_cols v_search_levels3_high v_search_levels3_wide v_search_levels3_folds v_search_levels3_wrong v_search_levels3_more v_search_levels3_rowOf v_search_levels3_colOf v_search_levels3_below v_search_levels3_face v_search_levels3_worn v_search_levels3_last v_search_levels3_bend v_search_levels3_tall v_search_path v_search_best v_strip_list v_strip_found v_strip_at v_changes_value v_changes_done v_changes_size v_changes_before v_changes_after v_foldings_size v_foldings_ran v_foldings_number v_foldings_kinds v_foldings_trace v_shelves0_holds v_shelves0_body v_shelves0_sort v_shelves0_size v_shelves0_items v_shelves1_holds v_shelves1_body v_shelves1_sort v_shelves1_size v_shelves1_items v_shelves2_holds v_shelves2_body v_shelves2_sort v_shelves2_size v_shelves2_items v_shelves3_holds v_shelves3_body v_shelves3_sort v_shelves3_size v_shelves3_items v_shelves4_holds v_shelves4_body v_shelves4_sort v_shelves4_size v_shelves4_items v_shelves5_holds v_shelves5_body v_shelves5_sort v_shelves5_size v_shelves5_items m_keptMany m_done m_rowsOf m_columnsOf m_folded m_wronged m_tapeMany m_textMany m_base m_at m_ends m_fault m_opened m_bentMany m_bentWrong m_moreWorn m_planned m_allWrong m_allWorn m_z m_wishedField m_isFound m_bestWrong m_bestWorn m_bestMany m_soughtBy m_sought m_soughtAt m_foundMany m_foundOrder m_isKept m_imageRows m_imageColumns m_imageFolded m_imageWronged m_bodies m_ran m_ownKind m_ownNumber m_limit m_changeWas m_changeIs m_shapeRows m_shapeColumns m_row m_column m_below m_face m_worn m_lastBend m_tape m_text m_names m_bends m_high m_to m_pileSize m_planLine m_planWay m_way1 m_bestWay m_order1 m_placeIn m_bodyKind m_trace m_shelf m_many m_items m_carried H locs u_0 u_1 u_2 u_3 u_4 u_5 u_6 u_7 u_8 u_9 u_10 u_11 u_12 u_13 u_14 u_15 u_16 u_17 u_18 t_0 t_1 t_2 t_3 t_4 t_5 t_6 t_7 w_0 w_1 hr_2 hr_3 w_4 hP hD hS)
set_option maxHeartbeats 8000000 in
set_option maxRecDepth 100000 in
theorem ls_11 {p : Program} {l : Launch} {e : Env} {s : State} {m : MethodId} {below : List Frame} {meth : Method} {c : Code} {D : va_G} {cI cL cS cH : ClassId} {bb : Nat} {a b : Nat → Nat} {cells slots : Nat} {Q : State → Prop} {L : Nat} {xs : Nat → Int32} {x3 : Int32} {ls : Array Slot} (C0 : mm_Cx p s m #[Value.ref bb] meth c RL code 4 ret D (mm_T cI cL cS cH) (fun q => s.heap.size ≤ q)) (hX : va_X bb L xs s s.heap) (hbl : bb < s.heap.size) (hi_1 : vp_in (x3 + (1 : Int32)) L) (hi_2 : vp_in (x3 + (2 : Int32)) L) (hc1 : cells ≤ room_1.cells) (hc2 : slots ≤ room_1.slots) (hl : lv_has ls 4 [(0, .ref bb), (1, .ref (a 0)), (2, .ref (b 0)), (3, .int x3)]) (K : lw_St p l e s m below meth c D cI cL cS cH bb a b cells slots Q 1391 ls) : lw_St p l e s m below meth c D cI cL cS cH bb a b cells slots Q 477 ls := by
  intro v_hasImage v_now_rows v_now_cols v_now_high v_now_wide v_now_folds v_now_wrong v_now_more v_now_rowOf v_now_colOf v_now_below v_now_face v_now_worn v_now_last v_now_bend v_now_tall v_kept_rows v_kept_cols v_kept_high v_kept_wide v_kept_folds v_kept_wrong v_kept_more v_kept_rowOf v_kept_colOf v_kept_below v_kept_face v_kept_worn v_kept_last v_kept_bend v_kept_tall v_wearing_size v_wearing_stepCount v_wearing_draftCount v_wearing_place v_wearing_fault v_wearing_stacked v_wearing_tape v_wearing_steps v_wearing_draft v_wearing_stack v_planned_size v_planned_trial_rows v_planned_trial_cols v_planned_trial_high v_planned_trial_wide v_planned_trial_folds v_planned_trial_wrong v_planned_trial_more v_planned_trial_rowOf v_planned_trial_colOf v_planned_trial_below v_planned_trial_face v_planned_trial_worn v_planned_trial_last v_planned_trial_bend v_planned_trial_tall v_planned_lines v_planned_ways v_search_found v_search_wrong v_search_more v_search_folds v_search_wanted v_search_levels0_rows v_search_levels0_cols v_search_levels0_high v_search_levels0_wide v_search_levels0_folds v_search_levels0_wrong v_search_levels0_more v_search_levels0_rowOf v_search_levels0_colOf v_search_levels0_below v_search_levels0_face v_search_levels0_worn v_search_levels0_last v_search_levels0_bend v_search_levels0_tall v_search_levels1_rows v_search_levels1_cols v_search_levels1_high v_search_levels1_wide v_search_levels1_folds v_search_levels1_wrong v_search_levels1_more v_search_levels1_rowOf v_search_levels1_colOf v_search_levels1_below v_search_levels1_face v_search_levels1_worn v_search_levels1_last v_search_levels1_bend v_search_levels1_tall v_search_levels2_rows v_search_levels2_cols v_search_levels2_high v_search_levels2_wide v_search_levels2_folds v_search_levels2_wrong v_search_levels2_more v_search_levels2_rowOf v_search_levels2_colOf v_search_levels2_below v_search_levels2_face v_search_levels2_worn v_search_levels2_last v_search_levels2_bend v_search_levels2_tall v_search_levels3_rows v_search_levels3_cols v_search_levels3_high v_search_levels3_wide v_search_levels3_folds v_search_levels3_wrong v_search_levels3_more v_search_levels3_rowOf v_search_levels3_colOf v_search_levels3_below v_search_levels3_face v_search_levels3_worn v_search_levels3_last v_search_levels3_bend v_search_levels3_tall v_search_path v_search_best v_strip_list v_strip_found v_strip_at v_changes_value v_changes_done v_changes_size v_changes_before v_changes_after v_foldings_size v_foldings_ran v_foldings_number v_foldings_kinds v_foldings_trace v_shelves0_holds v_shelves0_body v_shelves0_sort v_shelves0_size v_shelves0_items v_shelves1_holds v_shelves1_body v_shelves1_sort v_shelves1_size v_shelves1_items v_shelves2_holds v_shelves2_body v_shelves2_sort v_shelves2_size v_shelves2_items v_shelves3_holds v_shelves3_body v_shelves3_sort v_shelves3_size v_shelves3_items v_shelves4_holds v_shelves4_body v_shelves4_sort v_shelves4_size v_shelves4_items v_shelves5_holds v_shelves5_body v_shelves5_sort v_shelves5_size v_shelves5_items m_keptMany m_done m_rowsOf m_columnsOf m_folded m_wronged m_tapeMany m_textMany m_base m_at m_ends m_fault m_opened m_bentMany m_bentWrong m_moreWorn m_planned m_allWrong m_allWorn m_z m_wishedField m_isFound m_bestWrong m_bestWorn m_bestMany m_soughtBy m_sought m_soughtAt m_foundMany m_foundOrder m_isKept m_imageRows m_imageColumns m_imageFolded m_imageWronged m_bodies m_ran m_ownKind m_ownNumber m_limit m_changeWas m_changeIs m_shapeRows m_shapeColumns m_row m_column m_below m_face m_worn m_lastBend m_tape m_text m_names m_bends m_high m_to m_pileSize m_planLine m_planWay m_way1 m_bestWay m_order1 m_placeIn m_bodyKind m_trace m_shelf m_many m_items m_carried H locs u_0 u_1 u_2 u_3 u_4 u_5 u_6 u_7 u_8 u_9 u_10 u_11 u_12 u_13 u_14 u_15 u_16 u_17 u_18 t_0 t_1 t_2 t_3 t_4 t_5 t_6 t_7 hr_0 hr_1 hr_2 hr_3 hr_4 hP hD hS
  obtain ⟨⟨r8, p_planned_size, p_planned_lines, p_planned_ways⟩, h8, q8⟩ := st8_plan (x1 := (xs (x3 + (1 : Int32)).toNatClampNeg)) (x2 := (xs (x3 + (2 : Int32)).toNatClampNeg)) u_3
  have y_0 : gi_pl p_planned_size p_planned_lines p_planned_ways := q8
  obtain ⟨⟨r9, q_planned, q_planLine, q_planWay⟩, h9, q9⟩ := st9_plan (x1 := (xs (x3 + (1 : Int32)).toNatClampNeg)) (x2 := (xs (x3 + (2 : Int32)).toNatClampNeg)) t_3
  have z_0 : gm_pl q_planned q_planLine q_planWay := q9
  exact lc_11 C0 hX hbl hi_1 rfl hi_2 rfl h8 h9 hc1 hc2 hP hD hS hl (fun H locs hP hD hS => K v_hasImage v_now_rows v_now_cols v_now_high v_now_wide v_now_folds v_now_wrong v_now_more v_now_rowOf v_now_colOf v_now_below v_now_face v_now_worn v_now_last v_now_bend v_now_tall v_kept_rows v_kept_cols v_kept_high v_kept_wide v_kept_folds v_kept_wrong v_kept_more v_kept_rowOf v_kept_colOf v_kept_below v_kept_face v_kept_worn v_kept_last v_kept_bend v_kept_tall v_wearing_size v_wearing_stepCount v_wearing_draftCount v_wearing_place v_wearing_fault v_wearing_stacked v_wearing_tape v_wearing_steps v_wearing_draft v_wearing_stack p_planned_size v_planned_trial_rows v_planned_trial_cols v_planned_trial_high v_planned_trial_wide v_planned_trial_folds v_planned_trial_wrong v_planned_trial_more v_planned_trial_rowOf v_planned_trial_colOf v_planned_trial_below v_planned_trial_face v_planned_trial_worn v_planned_trial_last v_planned_trial_bend v_planned_trial_tall p_planned_lines p_planned_ways v_search_found v_search_wrong v_search_more v_search_folds v_search_wanted v_search_levels0_rows v_search_levels0_cols v_search_levels0_high v_search_levels0_wide v_search_levels0_folds v_search_levels0_wrong v_search_levels0_more v_search_levels0_rowOf v_search_levels0_colOf v_search_levels0_below v_search_levels0_face v_search_levels0_worn v_search_levels0_last v_search_levels0_bend v_search_levels0_tall v_search_levels1_rows v_search_levels1_cols v_search_levels1_high v_search_levels1_wide v_search_levels1_folds v_search_levels1_wrong v_search_levels1_more v_search_levels1_rowOf v_search_levels1_colOf v_search_levels1_below v_search_levels1_face v_search_levels1_worn v_search_levels1_last v_search_levels1_bend v_search_levels1_tall v_search_levels2_rows v_search_levels2_cols v_search_levels2_high v_search_levels2_wide v_search_levels2_folds v_search_levels2_wrong v_search_levels2_more v_search_levels2_rowOf v_search_levels2_colOf v_search_levels2_below v_search_levels2_face v_search_levels2_worn v_search_levels2_last v_search_levels2_bend v_search_levels2_tall v_search_levels3_rows v_search_levels3_cols v_search_levels3_high v_search_levels3_wide v_search_levels3_folds v_search_levels3_wrong v_search_levels3_more v_search_levels3_rowOf v_search_levels3_colOf v_search_levels3_below v_search_levels3_face v_search_levels3_worn v_search_levels3_last v_search_levels3_bend v_search_levels3_tall v_search_path v_search_best v_strip_list v_strip_found v_strip_at v_changes_value v_changes_done v_changes_size v_changes_before v_changes_after v_foldings_size v_foldings_ran v_foldings_number v_foldings_kinds v_foldings_trace v_shelves0_holds v_shelves0_body v_shelves0_sort v_shelves0_size v_shelves0_items v_shelves1_holds v_shelves1_body v_shelves1_sort v_shelves1_size v_shelves1_items v_shelves2_holds v_shelves2_body v_shelves2_sort v_shelves2_size v_shelves2_items v_shelves3_holds v_shelves3_body v_shelves3_sort v_shelves3_size v_shelves3_items v_shelves4_holds v_shelves4_body v_shelves4_sort v_shelves4_size v_shelves4_items v_shelves5_holds v_shelves5_body v_shelves5_sort v_shelves5_size v_shelves5_items m_keptMany m_done m_rowsOf m_columnsOf m_folded m_wronged m_tapeMany m_textMany m_base m_at m_ends m_fault m_opened m_bentMany m_bentWrong m_moreWorn q_planned m_allWrong m_allWorn m_z m_wishedField m_isFound m_bestWrong m_bestWorn m_bestMany m_soughtBy m_sought m_soughtAt m_foundMany m_foundOrder m_isKept m_imageRows m_imageColumns m_imageFolded m_imageWronged m_bodies m_ran m_ownKind m_ownNumber m_limit m_changeWas m_changeIs m_shapeRows m_shapeColumns m_row m_column m_below m_face m_worn m_lastBend m_tape m_text m_names m_bends m_high m_to m_pileSize q_planLine q_planWay m_way1 m_bestWay m_order1 m_placeIn m_bodyKind m_trace m_shelf m_many m_items m_carried H locs u_0 u_1 u_2 y_0 u_4 u_5 u_6 u_7 u_8 u_9 u_10 u_11 u_12 u_13 u_14 u_15 u_16 u_17 u_18 t_0 t_1 t_2 z_0 t_4 t_5 t_6 t_7 hr_0 hr_1 hr_2 hr_3 hr_4 hP hD hS)
set_option maxHeartbeats 8000000 in
set_option maxRecDepth 100000 in
theorem ls_12 {p : Program} {l : Launch} {e : Env} {s : State} {m : MethodId} {below : List Frame} {meth : Method} {c : Code} {D : va_G} {cI cL cS cH : ClassId} {bb : Nat} {a b : Nat → Nat} {cells slots : Nat} {Q : State → Prop} {L : Nat} {xs : Nat → Int32} {x3 : Int32} {ls : Array Slot} (C0 : mm_Cx p s m #[Value.ref bb] meth c RL code 4 ret D (mm_T cI cL cS cH) (fun q => s.heap.size ≤ q)) (hX : va_X bb L xs s s.heap) (hbl : bb < s.heap.size) (hi_1 : vp_in (x3 + (1 : Int32)) L) (hi_2 : vp_in (x3 + (2 : Int32)) L) (hi_3 : vp_in (x3 + (3 : Int32)) L) (hc1 : cells ≤ room_1.cells) (hc2 : slots ≤ room_1.slots) (hl : lv_has ls 4 [(0, .ref bb), (1, .ref (a 0)), (2, .ref (b 0)), (3, .int x3)]) (K : lw_St p l e s m below meth c D cI cL cS cH bb a b cells slots Q 1391 ls) : lw_St p l e s m below meth c D cI cL cS cH bb a b cells slots Q 510 ls := by
  intro v_hasImage v_now_rows v_now_cols v_now_high v_now_wide v_now_folds v_now_wrong v_now_more v_now_rowOf v_now_colOf v_now_below v_now_face v_now_worn v_now_last v_now_bend v_now_tall v_kept_rows v_kept_cols v_kept_high v_kept_wide v_kept_folds v_kept_wrong v_kept_more v_kept_rowOf v_kept_colOf v_kept_below v_kept_face v_kept_worn v_kept_last v_kept_bend v_kept_tall v_wearing_size v_wearing_stepCount v_wearing_draftCount v_wearing_place v_wearing_fault v_wearing_stacked v_wearing_tape v_wearing_steps v_wearing_draft v_wearing_stack v_planned_size v_planned_trial_rows v_planned_trial_cols v_planned_trial_high v_planned_trial_wide v_planned_trial_folds v_planned_trial_wrong v_planned_trial_more v_planned_trial_rowOf v_planned_trial_colOf v_planned_trial_below v_planned_trial_face v_planned_trial_worn v_planned_trial_last v_planned_trial_bend v_planned_trial_tall v_planned_lines v_planned_ways v_search_found v_search_wrong v_search_more v_search_folds v_search_wanted v_search_levels0_rows v_search_levels0_cols v_search_levels0_high v_search_levels0_wide v_search_levels0_folds v_search_levels0_wrong v_search_levels0_more v_search_levels0_rowOf v_search_levels0_colOf v_search_levels0_below v_search_levels0_face v_search_levels0_worn v_search_levels0_last v_search_levels0_bend v_search_levels0_tall v_search_levels1_rows v_search_levels1_cols v_search_levels1_high v_search_levels1_wide v_search_levels1_folds v_search_levels1_wrong v_search_levels1_more v_search_levels1_rowOf v_search_levels1_colOf v_search_levels1_below v_search_levels1_face v_search_levels1_worn v_search_levels1_last v_search_levels1_bend v_search_levels1_tall v_search_levels2_rows v_search_levels2_cols v_search_levels2_high v_search_levels2_wide v_search_levels2_folds v_search_levels2_wrong v_search_levels2_more v_search_levels2_rowOf v_search_levels2_colOf v_search_levels2_below v_search_levels2_face v_search_levels2_worn v_search_levels2_last v_search_levels2_bend v_search_levels2_tall v_search_levels3_rows v_search_levels3_cols v_search_levels3_high v_search_levels3_wide v_search_levels3_folds v_search_levels3_wrong v_search_levels3_more v_search_levels3_rowOf v_search_levels3_colOf v_search_levels3_below v_search_levels3_face v_search_levels3_worn v_search_levels3_last v_search_levels3_bend v_search_levels3_tall v_search_path v_search_best v_strip_list v_strip_found v_strip_at v_changes_value v_changes_done v_changes_size v_changes_before v_changes_after v_foldings_size v_foldings_ran v_foldings_number v_foldings_kinds v_foldings_trace v_shelves0_holds v_shelves0_body v_shelves0_sort v_shelves0_size v_shelves0_items v_shelves1_holds v_shelves1_body v_shelves1_sort v_shelves1_size v_shelves1_items v_shelves2_holds v_shelves2_body v_shelves2_sort v_shelves2_size v_shelves2_items v_shelves3_holds v_shelves3_body v_shelves3_sort v_shelves3_size v_shelves3_items v_shelves4_holds v_shelves4_body v_shelves4_sort v_shelves4_size v_shelves4_items v_shelves5_holds v_shelves5_body v_shelves5_sort v_shelves5_size v_shelves5_items m_keptMany m_done m_rowsOf m_columnsOf m_folded m_wronged m_tapeMany m_textMany m_base m_at m_ends m_fault m_opened m_bentMany m_bentWrong m_moreWorn m_planned m_allWrong m_allWorn m_z m_wishedField m_isFound m_bestWrong m_bestWorn m_bestMany m_soughtBy m_sought m_soughtAt m_foundMany m_foundOrder m_isKept m_imageRows m_imageColumns m_imageFolded m_imageWronged m_bodies m_ran m_ownKind m_ownNumber m_limit m_changeWas m_changeIs m_shapeRows m_shapeColumns m_row m_column m_below m_face m_worn m_lastBend m_tape m_text m_names m_bends m_high m_to m_pileSize m_planLine m_planWay m_way1 m_bestWay m_order1 m_placeIn m_bodyKind m_trace m_shelf m_many m_items m_carried H locs u_0 u_1 u_2 u_3 u_4 u_5 u_6 u_7 u_8 u_9 u_10 u_11 u_12 u_13 u_14 u_15 u_16 u_17 u_18 t_0 t_1 t_2 t_3 t_4 t_5 t_6 t_7 hr_0 hr_1 hr_2 hr_3 hr_4 hP hD hS
  obtain ⟨⟨r8, p_planned_size, p_planned_lines, p_planned_ways⟩, h8, q8⟩ := st8_plans (x1 := (xs (x3 + (1 : Int32)).toNatClampNeg)) (x2 := (xs (x3 + (2 : Int32)).toNatClampNeg)) (x3 := (xs (x3 + (3 : Int32)).toNatClampNeg)) (v_shelves0_holds := v_shelves0_holds) (v_shelves0_sort := v_shelves0_sort) (v_shelves1_holds := v_shelves1_holds) (v_shelves1_sort := v_shelves1_sort) (v_shelves2_holds := v_shelves2_holds) (v_shelves2_sort := v_shelves2_sort) (v_shelves3_holds := v_shelves3_holds) (v_shelves3_sort := v_shelves3_sort) (v_shelves4_holds := v_shelves4_holds) (v_shelves4_sort := v_shelves4_sort) (v_shelves5_holds := v_shelves5_holds) (v_shelves5_sort := v_shelves5_sort) u_3 u_4 u_5 u_6 u_7 u_8 u_9
  have y_0 : gi_pl p_planned_size p_planned_lines p_planned_ways := q8
  obtain ⟨⟨r9, q_planned, q_planLine, q_planWay⟩, h9, q9⟩ := st9_plans (x1 := (xs (x3 + (1 : Int32)).toNatClampNeg)) (x2 := (xs (x3 + (2 : Int32)).toNatClampNeg)) (x3 := (xs (x3 + (3 : Int32)).toNatClampNeg)) t_3 t_7
  have z_0 : gm_pl q_planned q_planLine q_planWay := q9
  exact lc_12 C0 hX hbl hi_1 rfl hi_2 rfl hi_3 rfl h8 h9 hc1 hc2 hP hD hS hl (fun H locs hP hD hS => K v_hasImage v_now_rows v_now_cols v_now_high v_now_wide v_now_folds v_now_wrong v_now_more v_now_rowOf v_now_colOf v_now_below v_now_face v_now_worn v_now_last v_now_bend v_now_tall v_kept_rows v_kept_cols v_kept_high v_kept_wide v_kept_folds v_kept_wrong v_kept_more v_kept_rowOf v_kept_colOf v_kept_below v_kept_face v_kept_worn v_kept_last v_kept_bend v_kept_tall v_wearing_size v_wearing_stepCount v_wearing_draftCount v_wearing_place v_wearing_fault v_wearing_stacked v_wearing_tape v_wearing_steps v_wearing_draft v_wearing_stack p_planned_size v_planned_trial_rows v_planned_trial_cols v_planned_trial_high v_planned_trial_wide v_planned_trial_folds v_planned_trial_wrong v_planned_trial_more v_planned_trial_rowOf v_planned_trial_colOf v_planned_trial_below v_planned_trial_face v_planned_trial_worn v_planned_trial_last v_planned_trial_bend v_planned_trial_tall p_planned_lines p_planned_ways v_search_found v_search_wrong v_search_more v_search_folds v_search_wanted v_search_levels0_rows v_search_levels0_cols v_search_levels0_high v_search_levels0_wide v_search_levels0_folds v_search_levels0_wrong v_search_levels0_more v_search_levels0_rowOf v_search_levels0_colOf v_search_levels0_below v_search_levels0_face v_search_levels0_worn v_search_levels0_last v_search_levels0_bend v_search_levels0_tall v_search_levels1_rows v_search_levels1_cols v_search_levels1_high v_search_levels1_wide v_search_levels1_folds v_search_levels1_wrong v_search_levels1_more v_search_levels1_rowOf v_search_levels1_colOf v_search_levels1_below v_search_levels1_face v_search_levels1_worn v_search_levels1_last v_search_levels1_bend v_search_levels1_tall v_search_levels2_rows v_search_levels2_cols v_search_levels2_high v_search_levels2_wide v_search_levels2_folds v_search_levels2_wrong v_search_levels2_more v_search_levels2_rowOf v_search_levels2_colOf v_search_levels2_below v_search_levels2_face v_search_levels2_worn v_search_levels2_last v_search_levels2_bend v_search_levels2_tall v_search_levels3_rows v_search_levels3_cols v_search_levels3_high v_search_levels3_wide v_search_levels3_folds v_search_levels3_wrong v_search_levels3_more v_search_levels3_rowOf v_search_levels3_colOf v_search_levels3_below v_search_levels3_face v_search_levels3_worn v_search_levels3_last v_search_levels3_bend v_search_levels3_tall v_search_path v_search_best v_strip_list v_strip_found v_strip_at v_changes_value v_changes_done v_changes_size v_changes_before v_changes_after v_foldings_size v_foldings_ran v_foldings_number v_foldings_kinds v_foldings_trace v_shelves0_holds v_shelves0_body v_shelves0_sort v_shelves0_size v_shelves0_items v_shelves1_holds v_shelves1_body v_shelves1_sort v_shelves1_size v_shelves1_items v_shelves2_holds v_shelves2_body v_shelves2_sort v_shelves2_size v_shelves2_items v_shelves3_holds v_shelves3_body v_shelves3_sort v_shelves3_size v_shelves3_items v_shelves4_holds v_shelves4_body v_shelves4_sort v_shelves4_size v_shelves4_items v_shelves5_holds v_shelves5_body v_shelves5_sort v_shelves5_size v_shelves5_items m_keptMany m_done m_rowsOf m_columnsOf m_folded m_wronged m_tapeMany m_textMany m_base m_at m_ends m_fault m_opened m_bentMany m_bentWrong m_moreWorn q_planned m_allWrong m_allWorn m_z m_wishedField m_isFound m_bestWrong m_bestWorn m_bestMany m_soughtBy m_sought m_soughtAt m_foundMany m_foundOrder m_isKept m_imageRows m_imageColumns m_imageFolded m_imageWronged m_bodies m_ran m_ownKind m_ownNumber m_limit m_changeWas m_changeIs m_shapeRows m_shapeColumns m_row m_column m_below m_face m_worn m_lastBend m_tape m_text m_names m_bends m_high m_to m_pileSize q_planLine q_planWay m_way1 m_bestWay m_order1 m_placeIn m_bodyKind m_trace m_shelf m_many m_items m_carried H locs u_0 u_1 u_2 y_0 u_4 u_5 u_6 u_7 u_8 u_9 u_10 u_11 u_12 u_13 u_14 u_15 u_16 u_17 u_18 t_0 t_1 t_2 z_0 t_4 t_5 t_6 t_7 hr_0 hr_1 hr_2 hr_3 hr_4 hP hD hS)
set_option maxHeartbeats 8000000 in
set_option maxRecDepth 100000 in
theorem ls_13 {p : Program} {l : Launch} {e : Env} {s : State} {m : MethodId} {below : List Frame} {meth : Method} {c : Code} {D : va_G} {cI cL cS cH : ClassId} {bb : Nat} {a b : Nat → Nat} {cells slots : Nat} {Q : State → Prop} {L : Nat} {xs : Nat → Int32} {x3 : Int32} {ls : Array Slot} (C0 : mm_Cx p s m #[Value.ref bb] meth c RL code 4 ret D (mm_T cI cL cS cH) (fun q => s.heap.size ≤ q)) (hX : va_X bb L xs s s.heap) (hbl : bb < s.heap.size) (hi_1 : vp_in (x3 + (1 : Int32)) L) (hc1 : cells ≤ room_1.cells) (hc2 : slots ≤ room_1.slots) (hl : lv_has ls 4 [(0, .ref bb), (1, .ref (a 0)), (2, .ref (b 0)), (3, .int x3)]) (K : lw_St p l e s m below meth c D cI cL cS cH bb a b cells slots Q 1391 ls) : lw_St p l e s m below meth c D cI cL cS cH bb a b cells slots Q 553 ls := by
  intro v_hasImage v_now_rows v_now_cols v_now_high v_now_wide v_now_folds v_now_wrong v_now_more v_now_rowOf v_now_colOf v_now_below v_now_face v_now_worn v_now_last v_now_bend v_now_tall v_kept_rows v_kept_cols v_kept_high v_kept_wide v_kept_folds v_kept_wrong v_kept_more v_kept_rowOf v_kept_colOf v_kept_below v_kept_face v_kept_worn v_kept_last v_kept_bend v_kept_tall v_wearing_size v_wearing_stepCount v_wearing_draftCount v_wearing_place v_wearing_fault v_wearing_stacked v_wearing_tape v_wearing_steps v_wearing_draft v_wearing_stack v_planned_size v_planned_trial_rows v_planned_trial_cols v_planned_trial_high v_planned_trial_wide v_planned_trial_folds v_planned_trial_wrong v_planned_trial_more v_planned_trial_rowOf v_planned_trial_colOf v_planned_trial_below v_planned_trial_face v_planned_trial_worn v_planned_trial_last v_planned_trial_bend v_planned_trial_tall v_planned_lines v_planned_ways v_search_found v_search_wrong v_search_more v_search_folds v_search_wanted v_search_levels0_rows v_search_levels0_cols v_search_levels0_high v_search_levels0_wide v_search_levels0_folds v_search_levels0_wrong v_search_levels0_more v_search_levels0_rowOf v_search_levels0_colOf v_search_levels0_below v_search_levels0_face v_search_levels0_worn v_search_levels0_last v_search_levels0_bend v_search_levels0_tall v_search_levels1_rows v_search_levels1_cols v_search_levels1_high v_search_levels1_wide v_search_levels1_folds v_search_levels1_wrong v_search_levels1_more v_search_levels1_rowOf v_search_levels1_colOf v_search_levels1_below v_search_levels1_face v_search_levels1_worn v_search_levels1_last v_search_levels1_bend v_search_levels1_tall v_search_levels2_rows v_search_levels2_cols v_search_levels2_high v_search_levels2_wide v_search_levels2_folds v_search_levels2_wrong v_search_levels2_more v_search_levels2_rowOf v_search_levels2_colOf v_search_levels2_below v_search_levels2_face v_search_levels2_worn v_search_levels2_last v_search_levels2_bend v_search_levels2_tall v_search_levels3_rows v_search_levels3_cols v_search_levels3_high v_search_levels3_wide v_search_levels3_folds v_search_levels3_wrong v_search_levels3_more v_search_levels3_rowOf v_search_levels3_colOf v_search_levels3_below v_search_levels3_face v_search_levels3_worn v_search_levels3_last v_search_levels3_bend v_search_levels3_tall v_search_path v_search_best v_strip_list v_strip_found v_strip_at v_changes_value v_changes_done v_changes_size v_changes_before v_changes_after v_foldings_size v_foldings_ran v_foldings_number v_foldings_kinds v_foldings_trace v_shelves0_holds v_shelves0_body v_shelves0_sort v_shelves0_size v_shelves0_items v_shelves1_holds v_shelves1_body v_shelves1_sort v_shelves1_size v_shelves1_items v_shelves2_holds v_shelves2_body v_shelves2_sort v_shelves2_size v_shelves2_items v_shelves3_holds v_shelves3_body v_shelves3_sort v_shelves3_size v_shelves3_items v_shelves4_holds v_shelves4_body v_shelves4_sort v_shelves4_size v_shelves4_items v_shelves5_holds v_shelves5_body v_shelves5_sort v_shelves5_size v_shelves5_items m_keptMany m_done m_rowsOf m_columnsOf m_folded m_wronged m_tapeMany m_textMany m_base m_at m_ends m_fault m_opened m_bentMany m_bentWrong m_moreWorn m_planned m_allWrong m_allWorn m_z m_wishedField m_isFound m_bestWrong m_bestWorn m_bestMany m_soughtBy m_sought m_soughtAt m_foundMany m_foundOrder m_isKept m_imageRows m_imageColumns m_imageFolded m_imageWronged m_bodies m_ran m_ownKind m_ownNumber m_limit m_changeWas m_changeIs m_shapeRows m_shapeColumns m_row m_column m_below m_face m_worn m_lastBend m_tape m_text m_names m_bends m_high m_to m_pileSize m_planLine m_planWay m_way1 m_bestWay m_order1 m_placeIn m_bodyKind m_trace m_shelf m_many m_items m_carried H locs u_0 u_1 u_2 u_3 u_4 u_5 u_6 u_7 u_8 u_9 u_10 u_11 u_12 u_13 u_14 u_15 u_16 u_17 u_18 t_0 t_1 t_2 t_3 t_4 t_5 t_6 t_7 hr_0 hr_1 hr_2 hr_3 hr_4 hP hD hS
  obtain ⟨⟨r8, p_wearing_stacked, p_wearing_stack, p_planned_trial_rows, p_planned_trial_cols, p_planned_trial_high, p_planned_trial_wide, p_planned_trial_folds, p_planned_trial_wrong, p_planned_trial_more, p_planned_trial_rowOf, p_planned_trial_colOf, p_planned_trial_below, p_planned_trial_face, p_planned_trial_worn, p_planned_trial_last, p_planned_trial_bend, p_planned_trial_tall⟩, h8, q8⟩ := st8_cost (x1 := (xs (x3 + (1 : Int32)).toNatClampNeg)) (v_now_folds := v_now_folds) (v_now_wrong := v_now_wrong) (v_now_more := v_now_more) (v_wearing_stacked := v_wearing_stacked) (v_planned_trial_folds := v_planned_trial_folds) (v_planned_trial_wrong := v_planned_trial_wrong) (v_planned_trial_more := v_planned_trial_more) (v_changes_value := v_changes_value) u_0 u_2 u_3 u_10
  have j8 : gi_la v_wearing_size v_wearing_stepCount v_wearing_draftCount v_wearing_tape v_wearing_steps v_wearing_draft p_wearing_stack ∧ gi_sh p_planned_trial_rows p_planned_trial_cols p_planned_trial_high p_planned_trial_wide p_planned_trial_rowOf p_planned_trial_colOf p_planned_trial_below p_planned_trial_face p_planned_trial_worn p_planned_trial_last p_planned_trial_bend p_planned_trial_tall := q8
  obtain ⟨y_0, y_1⟩ := j8
  obtain ⟨⟨r9, q_base, q_at, q_ends, q_fault, q_opened, q_bentMany, q_bentWrong, q_moreWorn, q_allWrong, q_allWorn, q_z, q_shapeRows, q_shapeColumns, q_row, q_column, q_below, q_face, q_worn, q_lastBend, q_names, q_bends, q_high, q_to, q_pileSize⟩, h9, q9⟩ := st9_cost (x1 := (xs (x3 + (1 : Int32)).toNatClampNeg)) (v_base := m_base) (v_at := m_at) (v_ends := m_ends) (v_fault := m_fault) (v_opened := m_opened) (v_bentMany := m_bentMany) (v_bentWrong := m_bentWrong) (v_moreWorn := m_moreWorn) (v_allWrong := m_allWrong) (v_allWorn := m_allWorn) (v_z := m_z) t_0 t_1 t_2 t_3
  have j9 : gm_sh m_rowsOf m_columnsOf m_isKept m_imageRows m_imageColumns q_shapeRows q_shapeColumns q_row q_column q_below q_face q_worn q_lastBend ∧ gm_tx m_tapeMany m_textMany m_tape m_text q_names q_bends q_high q_to q_pileSize := q9
  obtain ⟨z_0, z_1⟩ := j9
  have w_0 := fk_cost_ge t_0 t_1 t_2 t_3 hr_0 h9
  have w_4 := fk_cost_cr t_0 t_1 t_2 t_3 hr_4 h9
  exact lc_13 C0 hX hbl hi_1 rfl h8 h9 hc1 hc2 hP hD hS hl (fun H locs hP hD hS => K v_hasImage v_now_rows v_now_cols v_now_high v_now_wide v_now_folds v_now_wrong v_now_more v_now_rowOf v_now_colOf v_now_below v_now_face v_now_worn v_now_last v_now_bend v_now_tall v_kept_rows v_kept_cols v_kept_high v_kept_wide v_kept_folds v_kept_wrong v_kept_more v_kept_rowOf v_kept_colOf v_kept_below v_kept_face v_kept_worn v_kept_last v_kept_bend v_kept_tall v_wearing_size v_wearing_stepCount v_wearing_draftCount v_wearing_place v_wearing_fault p_wearing_stacked v_wearing_tape v_wearing_steps v_wearing_draft p_wearing_stack v_planned_size p_planned_trial_rows p_planned_trial_cols p_planned_trial_high p_planned_trial_wide p_planned_trial_folds p_planned_trial_wrong p_planned_trial_more p_planned_trial_rowOf p_planned_trial_colOf p_planned_trial_below p_planned_trial_face p_planned_trial_worn p_planned_trial_last p_planned_trial_bend p_planned_trial_tall v_planned_lines v_planned_ways v_search_found v_search_wrong v_search_more v_search_folds v_search_wanted v_search_levels0_rows v_search_levels0_cols v_search_levels0_high v_search_levels0_wide v_search_levels0_folds v_search_levels0_wrong v_search_levels0_more v_search_levels0_rowOf v_search_levels0_colOf v_search_levels0_below v_search_levels0_face v_search_levels0_worn v_search_levels0_last v_search_levels0_bend v_search_levels0_tall v_search_levels1_rows v_search_levels1_cols v_search_levels1_high v_search_levels1_wide v_search_levels1_folds v_search_levels1_wrong v_search_levels1_more v_search_levels1_rowOf v_search_levels1_colOf v_search_levels1_below v_search_levels1_face v_search_levels1_worn v_search_levels1_last v_search_levels1_bend v_search_levels1_tall v_search_levels2_rows v_search_levels2_cols v_search_levels2_high v_search_levels2_wide v_search_levels2_folds v_search_levels2_wrong v_search_levels2_more v_search_levels2_rowOf v_search_levels2_colOf v_search_levels2_below v_search_levels2_face v_search_levels2_worn v_search_levels2_last v_search_levels2_bend v_search_levels2_tall v_search_levels3_rows v_search_levels3_cols v_search_levels3_high v_search_levels3_wide v_search_levels3_folds v_search_levels3_wrong v_search_levels3_more v_search_levels3_rowOf v_search_levels3_colOf v_search_levels3_below v_search_levels3_face v_search_levels3_worn v_search_levels3_last v_search_levels3_bend v_search_levels3_tall v_search_path v_search_best v_strip_list v_strip_found v_strip_at v_changes_value v_changes_done v_changes_size v_changes_before v_changes_after v_foldings_size v_foldings_ran v_foldings_number v_foldings_kinds v_foldings_trace v_shelves0_holds v_shelves0_body v_shelves0_sort v_shelves0_size v_shelves0_items v_shelves1_holds v_shelves1_body v_shelves1_sort v_shelves1_size v_shelves1_items v_shelves2_holds v_shelves2_body v_shelves2_sort v_shelves2_size v_shelves2_items v_shelves3_holds v_shelves3_body v_shelves3_sort v_shelves3_size v_shelves3_items v_shelves4_holds v_shelves4_body v_shelves4_sort v_shelves4_size v_shelves4_items v_shelves5_holds v_shelves5_body v_shelves5_sort v_shelves5_size v_shelves5_items m_keptMany m_done m_rowsOf m_columnsOf m_folded m_wronged m_tapeMany m_textMany q_base q_at q_ends q_fault q_opened q_bentMany q_bentWrong q_moreWorn m_planned q_allWrong q_allWorn q_z m_wishedField m_isFound m_bestWrong m_bestWorn m_bestMany m_soughtBy m_sought m_soughtAt m_foundMany m_foundOrder m_isKept m_imageRows m_imageColumns m_imageFolded m_imageWronged m_bodies m_ran m_ownKind m_ownNumber m_limit m_changeWas m_changeIs q_shapeRows q_shapeColumns q_row q_column q_below q_face q_worn q_lastBend m_tape m_text q_names q_bends q_high q_to q_pileSize m_planLine m_planWay m_way1 m_bestWay m_order1 m_placeIn m_bodyKind m_trace m_shelf m_many m_items m_carried H locs u_0 u_1 y_0 u_3 u_4 u_5 u_6 u_7 u_8 u_9 y_1 u_11 u_12 u_13 u_14 u_15 u_16 u_17 u_18 t_0 z_0 z_1 t_3 t_4 t_5 t_6 t_7 w_0 hr_1 hr_2 hr_3 w_4 hP hD hS)
set_option maxHeartbeats 8000000 in
set_option maxRecDepth 100000 in
theorem ls_14 {p : Program} {l : Launch} {e : Env} {s : State} {m : MethodId} {below : List Frame} {meth : Method} {c : Code} {D : va_G} {cI cL cS cH : ClassId} {bb : Nat} {a b : Nat → Nat} {cells slots : Nat} {Q : State → Prop} {L : Nat} {xs : Nat → Int32} {x3 : Int32} {ls : Array Slot} (C0 : mm_Cx p s m #[Value.ref bb] meth c RL code 4 ret D (mm_T cI cL cS cH) (fun q => s.heap.size ≤ q)) (hX : va_X bb L xs s s.heap) (hbl : bb < s.heap.size) (hi_1 : vp_in (x3 + (1 : Int32)) L) (hi_2 : vp_in (x3 + (2 : Int32)) L) (hc1 : cells ≤ room_1.cells) (hc2 : slots ≤ room_1.slots) (hl : lv_has ls 4 [(0, .ref bb), (1, .ref (a 0)), (2, .ref (b 0)), (3, .int x3)]) (K : lw_St p l e s m below meth c D cI cL cS cH bb a b cells slots Q 1391 ls) : lw_St p l e s m below meth c D cI cL cS cH bb a b cells slots Q 576 ls := by
  intro v_hasImage v_now_rows v_now_cols v_now_high v_now_wide v_now_folds v_now_wrong v_now_more v_now_rowOf v_now_colOf v_now_below v_now_face v_now_worn v_now_last v_now_bend v_now_tall v_kept_rows v_kept_cols v_kept_high v_kept_wide v_kept_folds v_kept_wrong v_kept_more v_kept_rowOf v_kept_colOf v_kept_below v_kept_face v_kept_worn v_kept_last v_kept_bend v_kept_tall v_wearing_size v_wearing_stepCount v_wearing_draftCount v_wearing_place v_wearing_fault v_wearing_stacked v_wearing_tape v_wearing_steps v_wearing_draft v_wearing_stack v_planned_size v_planned_trial_rows v_planned_trial_cols v_planned_trial_high v_planned_trial_wide v_planned_trial_folds v_planned_trial_wrong v_planned_trial_more v_planned_trial_rowOf v_planned_trial_colOf v_planned_trial_below v_planned_trial_face v_planned_trial_worn v_planned_trial_last v_planned_trial_bend v_planned_trial_tall v_planned_lines v_planned_ways v_search_found v_search_wrong v_search_more v_search_folds v_search_wanted v_search_levels0_rows v_search_levels0_cols v_search_levels0_high v_search_levels0_wide v_search_levels0_folds v_search_levels0_wrong v_search_levels0_more v_search_levels0_rowOf v_search_levels0_colOf v_search_levels0_below v_search_levels0_face v_search_levels0_worn v_search_levels0_last v_search_levels0_bend v_search_levels0_tall v_search_levels1_rows v_search_levels1_cols v_search_levels1_high v_search_levels1_wide v_search_levels1_folds v_search_levels1_wrong v_search_levels1_more v_search_levels1_rowOf v_search_levels1_colOf v_search_levels1_below v_search_levels1_face v_search_levels1_worn v_search_levels1_last v_search_levels1_bend v_search_levels1_tall v_search_levels2_rows v_search_levels2_cols v_search_levels2_high v_search_levels2_wide v_search_levels2_folds v_search_levels2_wrong v_search_levels2_more v_search_levels2_rowOf v_search_levels2_colOf v_search_levels2_below v_search_levels2_face v_search_levels2_worn v_search_levels2_last v_search_levels2_bend v_search_levels2_tall v_search_levels3_rows v_search_levels3_cols v_search_levels3_high v_search_levels3_wide v_search_levels3_folds v_search_levels3_wrong v_search_levels3_more v_search_levels3_rowOf v_search_levels3_colOf v_search_levels3_below v_search_levels3_face v_search_levels3_worn v_search_levels3_last v_search_levels3_bend v_search_levels3_tall v_search_path v_search_best v_strip_list v_strip_found v_strip_at v_changes_value v_changes_done v_changes_size v_changes_before v_changes_after v_foldings_size v_foldings_ran v_foldings_number v_foldings_kinds v_foldings_trace v_shelves0_holds v_shelves0_body v_shelves0_sort v_shelves0_size v_shelves0_items v_shelves1_holds v_shelves1_body v_shelves1_sort v_shelves1_size v_shelves1_items v_shelves2_holds v_shelves2_body v_shelves2_sort v_shelves2_size v_shelves2_items v_shelves3_holds v_shelves3_body v_shelves3_sort v_shelves3_size v_shelves3_items v_shelves4_holds v_shelves4_body v_shelves4_sort v_shelves4_size v_shelves4_items v_shelves5_holds v_shelves5_body v_shelves5_sort v_shelves5_size v_shelves5_items m_keptMany m_done m_rowsOf m_columnsOf m_folded m_wronged m_tapeMany m_textMany m_base m_at m_ends m_fault m_opened m_bentMany m_bentWrong m_moreWorn m_planned m_allWrong m_allWorn m_z m_wishedField m_isFound m_bestWrong m_bestWorn m_bestMany m_soughtBy m_sought m_soughtAt m_foundMany m_foundOrder m_isKept m_imageRows m_imageColumns m_imageFolded m_imageWronged m_bodies m_ran m_ownKind m_ownNumber m_limit m_changeWas m_changeIs m_shapeRows m_shapeColumns m_row m_column m_below m_face m_worn m_lastBend m_tape m_text m_names m_bends m_high m_to m_pileSize m_planLine m_planWay m_way1 m_bestWay m_order1 m_placeIn m_bodyKind m_trace m_shelf m_many m_items m_carried H locs u_0 u_1 u_2 u_3 u_4 u_5 u_6 u_7 u_8 u_9 u_10 u_11 u_12 u_13 u_14 u_15 u_16 u_17 u_18 t_0 t_1 t_2 t_3 t_4 t_5 t_6 t_7 hr_0 hr_1 hr_2 hr_3 hr_4 hP hD hS
  obtain ⟨⟨r8, p_wearing_stacked, p_wearing_stack, p_planned_trial_rows, p_planned_trial_cols, p_planned_trial_high, p_planned_trial_wide, p_planned_trial_folds, p_planned_trial_wrong, p_planned_trial_more, p_planned_trial_rowOf, p_planned_trial_colOf, p_planned_trial_below, p_planned_trial_face, p_planned_trial_worn, p_planned_trial_last, p_planned_trial_bend, p_planned_trial_tall⟩, h8, q8⟩ := st8_lies (x1 := (xs (x3 + (1 : Int32)).toNatClampNeg)) (x2 := (xs (x3 + (2 : Int32)).toNatClampNeg)) (v_now_folds := v_now_folds) (v_now_wrong := v_now_wrong) (v_now_more := v_now_more) (v_wearing_stacked := v_wearing_stacked) (v_planned_trial_folds := v_planned_trial_folds) (v_planned_trial_wrong := v_planned_trial_wrong) (v_planned_trial_more := v_planned_trial_more) (v_changes_value := v_changes_value) u_0 u_2 u_3 u_10
  have j8 : gi_la v_wearing_size v_wearing_stepCount v_wearing_draftCount v_wearing_tape v_wearing_steps v_wearing_draft p_wearing_stack ∧ gi_sh p_planned_trial_rows p_planned_trial_cols p_planned_trial_high p_planned_trial_wide p_planned_trial_rowOf p_planned_trial_colOf p_planned_trial_below p_planned_trial_face p_planned_trial_worn p_planned_trial_last p_planned_trial_bend p_planned_trial_tall := q8
  obtain ⟨y_0, y_1⟩ := j8
  obtain ⟨⟨r9, q_base, q_at, q_ends, q_fault, q_opened, q_bentMany, q_bentWrong, q_moreWorn, q_allWrong, q_allWorn, q_z, q_shapeRows, q_shapeColumns, q_row, q_column, q_below, q_face, q_worn, q_lastBend, q_names, q_bends, q_high, q_to, q_pileSize⟩, h9, q9⟩ := st9_lies (x1 := (xs (x3 + (1 : Int32)).toNatClampNeg)) (x2 := (xs (x3 + (2 : Int32)).toNatClampNeg)) (v_base := m_base) (v_at := m_at) (v_ends := m_ends) (v_fault := m_fault) (v_opened := m_opened) (v_bentMany := m_bentMany) (v_bentWrong := m_bentWrong) (v_moreWorn := m_moreWorn) (v_allWrong := m_allWrong) (v_allWorn := m_allWorn) (v_z := m_z) t_0 t_1 t_2 t_3
  have j9 : gm_sh m_rowsOf m_columnsOf m_isKept m_imageRows m_imageColumns q_shapeRows q_shapeColumns q_row q_column q_below q_face q_worn q_lastBend ∧ gm_tx m_tapeMany m_textMany m_tape m_text q_names q_bends q_high q_to q_pileSize := q9
  obtain ⟨z_0, z_1⟩ := j9
  have w_0 := fk_lies_ge t_0 t_1 t_2 t_3 hr_0 h9
  have w_4 := fk_lies_cr t_0 t_1 t_2 t_3 hr_4 h9
  exact lc_14 C0 hX hbl hi_1 rfl hi_2 rfl h8 h9 hc1 hc2 hP hD hS hl (fun H locs hP hD hS => K v_hasImage v_now_rows v_now_cols v_now_high v_now_wide v_now_folds v_now_wrong v_now_more v_now_rowOf v_now_colOf v_now_below v_now_face v_now_worn v_now_last v_now_bend v_now_tall v_kept_rows v_kept_cols v_kept_high v_kept_wide v_kept_folds v_kept_wrong v_kept_more v_kept_rowOf v_kept_colOf v_kept_below v_kept_face v_kept_worn v_kept_last v_kept_bend v_kept_tall v_wearing_size v_wearing_stepCount v_wearing_draftCount v_wearing_place v_wearing_fault p_wearing_stacked v_wearing_tape v_wearing_steps v_wearing_draft p_wearing_stack v_planned_size p_planned_trial_rows p_planned_trial_cols p_planned_trial_high p_planned_trial_wide p_planned_trial_folds p_planned_trial_wrong p_planned_trial_more p_planned_trial_rowOf p_planned_trial_colOf p_planned_trial_below p_planned_trial_face p_planned_trial_worn p_planned_trial_last p_planned_trial_bend p_planned_trial_tall v_planned_lines v_planned_ways v_search_found v_search_wrong v_search_more v_search_folds v_search_wanted v_search_levels0_rows v_search_levels0_cols v_search_levels0_high v_search_levels0_wide v_search_levels0_folds v_search_levels0_wrong v_search_levels0_more v_search_levels0_rowOf v_search_levels0_colOf v_search_levels0_below v_search_levels0_face v_search_levels0_worn v_search_levels0_last v_search_levels0_bend v_search_levels0_tall v_search_levels1_rows v_search_levels1_cols v_search_levels1_high v_search_levels1_wide v_search_levels1_folds v_search_levels1_wrong v_search_levels1_more v_search_levels1_rowOf v_search_levels1_colOf v_search_levels1_below v_search_levels1_face v_search_levels1_worn v_search_levels1_last v_search_levels1_bend v_search_levels1_tall v_search_levels2_rows v_search_levels2_cols v_search_levels2_high v_search_levels2_wide v_search_levels2_folds v_search_levels2_wrong v_search_levels2_more v_search_levels2_rowOf v_search_levels2_colOf v_search_levels2_below v_search_levels2_face v_search_levels2_worn v_search_levels2_last v_search_levels2_bend v_search_levels2_tall v_search_levels3_rows v_search_levels3_cols v_search_levels3_high v_search_levels3_wide v_search_levels3_folds v_search_levels3_wrong v_search_levels3_more v_search_levels3_rowOf v_search_levels3_colOf v_search_levels3_below v_search_levels3_face v_search_levels3_worn v_search_levels3_last v_search_levels3_bend v_search_levels3_tall v_search_path v_search_best v_strip_list v_strip_found v_strip_at v_changes_value v_changes_done v_changes_size v_changes_before v_changes_after v_foldings_size v_foldings_ran v_foldings_number v_foldings_kinds v_foldings_trace v_shelves0_holds v_shelves0_body v_shelves0_sort v_shelves0_size v_shelves0_items v_shelves1_holds v_shelves1_body v_shelves1_sort v_shelves1_size v_shelves1_items v_shelves2_holds v_shelves2_body v_shelves2_sort v_shelves2_size v_shelves2_items v_shelves3_holds v_shelves3_body v_shelves3_sort v_shelves3_size v_shelves3_items v_shelves4_holds v_shelves4_body v_shelves4_sort v_shelves4_size v_shelves4_items v_shelves5_holds v_shelves5_body v_shelves5_sort v_shelves5_size v_shelves5_items m_keptMany m_done m_rowsOf m_columnsOf m_folded m_wronged m_tapeMany m_textMany q_base q_at q_ends q_fault q_opened q_bentMany q_bentWrong q_moreWorn m_planned q_allWrong q_allWorn q_z m_wishedField m_isFound m_bestWrong m_bestWorn m_bestMany m_soughtBy m_sought m_soughtAt m_foundMany m_foundOrder m_isKept m_imageRows m_imageColumns m_imageFolded m_imageWronged m_bodies m_ran m_ownKind m_ownNumber m_limit m_changeWas m_changeIs q_shapeRows q_shapeColumns q_row q_column q_below q_face q_worn q_lastBend m_tape m_text q_names q_bends q_high q_to q_pileSize m_planLine m_planWay m_way1 m_bestWay m_order1 m_placeIn m_bodyKind m_trace m_shelf m_many m_items m_carried H locs u_0 u_1 y_0 u_3 u_4 u_5 u_6 u_7 u_8 u_9 y_1 u_11 u_12 u_13 u_14 u_15 u_16 u_17 u_18 t_0 z_0 z_1 t_3 t_4 t_5 t_6 t_7 w_0 hr_1 hr_2 hr_3 w_4 hP hD hS)
set_option maxHeartbeats 8000000 in
set_option maxRecDepth 100000 in
theorem ls_15 {p : Program} {l : Launch} {e : Env} {s : State} {m : MethodId} {below : List Frame} {meth : Method} {c : Code} {D : va_G} {cI cL cS cH : ClassId} {bb : Nat} {a b : Nat → Nat} {cells slots : Nat} {Q : State → Prop} {L : Nat} {xs : Nat → Int32} {x3 : Int32} {ls : Array Slot} (C0 : mm_Cx p s m #[Value.ref bb] meth c RL code 4 ret D (mm_T cI cL cS cH) (fun q => s.heap.size ≤ q)) (hX : va_X bb L xs s s.heap) (hbl : bb < s.heap.size) (hi_1 : vp_in (x3 + (1 : Int32)) L) (hi_2 : vp_in (x3 + (2 : Int32)) L) (hc1 : cells ≤ room_1.cells) (hc2 : slots ≤ room_1.slots) (hl : lv_has ls 4 [(0, .ref bb), (1, .ref (a 0)), (2, .ref (b 0)), (3, .int x3)]) (K : lw_St p l e s m below meth c D cI cL cS cH bb a b cells slots Q 1391 ls) : lw_St p l e s m below meth c D cI cL cS cH bb a b cells slots Q 609 ls := by
  intro v_hasImage v_now_rows v_now_cols v_now_high v_now_wide v_now_folds v_now_wrong v_now_more v_now_rowOf v_now_colOf v_now_below v_now_face v_now_worn v_now_last v_now_bend v_now_tall v_kept_rows v_kept_cols v_kept_high v_kept_wide v_kept_folds v_kept_wrong v_kept_more v_kept_rowOf v_kept_colOf v_kept_below v_kept_face v_kept_worn v_kept_last v_kept_bend v_kept_tall v_wearing_size v_wearing_stepCount v_wearing_draftCount v_wearing_place v_wearing_fault v_wearing_stacked v_wearing_tape v_wearing_steps v_wearing_draft v_wearing_stack v_planned_size v_planned_trial_rows v_planned_trial_cols v_planned_trial_high v_planned_trial_wide v_planned_trial_folds v_planned_trial_wrong v_planned_trial_more v_planned_trial_rowOf v_planned_trial_colOf v_planned_trial_below v_planned_trial_face v_planned_trial_worn v_planned_trial_last v_planned_trial_bend v_planned_trial_tall v_planned_lines v_planned_ways v_search_found v_search_wrong v_search_more v_search_folds v_search_wanted v_search_levels0_rows v_search_levels0_cols v_search_levels0_high v_search_levels0_wide v_search_levels0_folds v_search_levels0_wrong v_search_levels0_more v_search_levels0_rowOf v_search_levels0_colOf v_search_levels0_below v_search_levels0_face v_search_levels0_worn v_search_levels0_last v_search_levels0_bend v_search_levels0_tall v_search_levels1_rows v_search_levels1_cols v_search_levels1_high v_search_levels1_wide v_search_levels1_folds v_search_levels1_wrong v_search_levels1_more v_search_levels1_rowOf v_search_levels1_colOf v_search_levels1_below v_search_levels1_face v_search_levels1_worn v_search_levels1_last v_search_levels1_bend v_search_levels1_tall v_search_levels2_rows v_search_levels2_cols v_search_levels2_high v_search_levels2_wide v_search_levels2_folds v_search_levels2_wrong v_search_levels2_more v_search_levels2_rowOf v_search_levels2_colOf v_search_levels2_below v_search_levels2_face v_search_levels2_worn v_search_levels2_last v_search_levels2_bend v_search_levels2_tall v_search_levels3_rows v_search_levels3_cols v_search_levels3_high v_search_levels3_wide v_search_levels3_folds v_search_levels3_wrong v_search_levels3_more v_search_levels3_rowOf v_search_levels3_colOf v_search_levels3_below v_search_levels3_face v_search_levels3_worn v_search_levels3_last v_search_levels3_bend v_search_levels3_tall v_search_path v_search_best v_strip_list v_strip_found v_strip_at v_changes_value v_changes_done v_changes_size v_changes_before v_changes_after v_foldings_size v_foldings_ran v_foldings_number v_foldings_kinds v_foldings_trace v_shelves0_holds v_shelves0_body v_shelves0_sort v_shelves0_size v_shelves0_items v_shelves1_holds v_shelves1_body v_shelves1_sort v_shelves1_size v_shelves1_items v_shelves2_holds v_shelves2_body v_shelves2_sort v_shelves2_size v_shelves2_items v_shelves3_holds v_shelves3_body v_shelves3_sort v_shelves3_size v_shelves3_items v_shelves4_holds v_shelves4_body v_shelves4_sort v_shelves4_size v_shelves4_items v_shelves5_holds v_shelves5_body v_shelves5_sort v_shelves5_size v_shelves5_items m_keptMany m_done m_rowsOf m_columnsOf m_folded m_wronged m_tapeMany m_textMany m_base m_at m_ends m_fault m_opened m_bentMany m_bentWrong m_moreWorn m_planned m_allWrong m_allWorn m_z m_wishedField m_isFound m_bestWrong m_bestWorn m_bestMany m_soughtBy m_sought m_soughtAt m_foundMany m_foundOrder m_isKept m_imageRows m_imageColumns m_imageFolded m_imageWronged m_bodies m_ran m_ownKind m_ownNumber m_limit m_changeWas m_changeIs m_shapeRows m_shapeColumns m_row m_column m_below m_face m_worn m_lastBend m_tape m_text m_names m_bends m_high m_to m_pileSize m_planLine m_planWay m_way1 m_bestWay m_order1 m_placeIn m_bodyKind m_trace m_shelf m_many m_items m_carried H locs u_0 u_1 u_2 u_3 u_4 u_5 u_6 u_7 u_8 u_9 u_10 u_11 u_12 u_13 u_14 u_15 u_16 u_17 u_18 t_0 t_1 t_2 t_3 t_4 t_5 t_6 t_7 hr_0 hr_1 hr_2 hr_3 hr_4 hP hD hS
  obtain ⟨⟨r8, p_wearing_stacked, p_wearing_stack, p_planned_trial_rows, p_planned_trial_cols, p_planned_trial_high, p_planned_trial_wide, p_planned_trial_folds, p_planned_trial_wrong, p_planned_trial_more, p_planned_trial_rowOf, p_planned_trial_colOf, p_planned_trial_below, p_planned_trial_face, p_planned_trial_worn, p_planned_trial_last, p_planned_trial_bend, p_planned_trial_tall⟩, h8, q8⟩ := st8_top (x1 := (xs (x3 + (1 : Int32)).toNatClampNeg)) (x2 := (xs (x3 + (2 : Int32)).toNatClampNeg)) (v_now_folds := v_now_folds) (v_now_wrong := v_now_wrong) (v_now_more := v_now_more) (v_wearing_stacked := v_wearing_stacked) (v_planned_trial_folds := v_planned_trial_folds) (v_planned_trial_wrong := v_planned_trial_wrong) (v_planned_trial_more := v_planned_trial_more) (v_changes_value := v_changes_value) u_0 u_2 u_3 u_10
  have j8 : gi_la v_wearing_size v_wearing_stepCount v_wearing_draftCount v_wearing_tape v_wearing_steps v_wearing_draft p_wearing_stack ∧ gi_sh p_planned_trial_rows p_planned_trial_cols p_planned_trial_high p_planned_trial_wide p_planned_trial_rowOf p_planned_trial_colOf p_planned_trial_below p_planned_trial_face p_planned_trial_worn p_planned_trial_last p_planned_trial_bend p_planned_trial_tall := q8
  obtain ⟨y_0, y_1⟩ := j8
  obtain ⟨⟨r9, q_base, q_at, q_ends, q_fault, q_opened, q_bentMany, q_bentWrong, q_moreWorn, q_allWrong, q_allWorn, q_z, q_shapeRows, q_shapeColumns, q_row, q_column, q_below, q_face, q_worn, q_lastBend, q_names, q_bends, q_high, q_to, q_pileSize⟩, h9, q9⟩ := st9_top (x1 := (xs (x3 + (1 : Int32)).toNatClampNeg)) (x2 := (xs (x3 + (2 : Int32)).toNatClampNeg)) (v_base := m_base) (v_at := m_at) (v_ends := m_ends) (v_fault := m_fault) (v_opened := m_opened) (v_bentMany := m_bentMany) (v_bentWrong := m_bentWrong) (v_moreWorn := m_moreWorn) (v_allWrong := m_allWrong) (v_allWorn := m_allWorn) (v_z := m_z) t_0 t_1 t_2 t_3
  have j9 : gm_sh m_rowsOf m_columnsOf m_isKept m_imageRows m_imageColumns q_shapeRows q_shapeColumns q_row q_column q_below q_face q_worn q_lastBend ∧ gm_tx m_tapeMany m_textMany m_tape m_text q_names q_bends q_high q_to q_pileSize := q9
  obtain ⟨z_0, z_1⟩ := j9
  have w_0 := fk_top_ge t_0 t_1 t_2 t_3 hr_0 h9
  have w_4 := fk_top_cr t_0 t_1 t_2 t_3 hr_4 h9
  exact lc_15 C0 hX hbl hi_1 rfl hi_2 rfl h8 h9 hc1 hc2 hP hD hS hl (fun H locs hP hD hS => K v_hasImage v_now_rows v_now_cols v_now_high v_now_wide v_now_folds v_now_wrong v_now_more v_now_rowOf v_now_colOf v_now_below v_now_face v_now_worn v_now_last v_now_bend v_now_tall v_kept_rows v_kept_cols v_kept_high v_kept_wide v_kept_folds v_kept_wrong v_kept_more v_kept_rowOf v_kept_colOf v_kept_below v_kept_face v_kept_worn v_kept_last v_kept_bend v_kept_tall v_wearing_size v_wearing_stepCount v_wearing_draftCount v_wearing_place v_wearing_fault p_wearing_stacked v_wearing_tape v_wearing_steps v_wearing_draft p_wearing_stack v_planned_size p_planned_trial_rows p_planned_trial_cols p_planned_trial_high p_planned_trial_wide p_planned_trial_folds p_planned_trial_wrong p_planned_trial_more p_planned_trial_rowOf p_planned_trial_colOf p_planned_trial_below p_planned_trial_face p_planned_trial_worn p_planned_trial_last p_planned_trial_bend p_planned_trial_tall v_planned_lines v_planned_ways v_search_found v_search_wrong v_search_more v_search_folds v_search_wanted v_search_levels0_rows v_search_levels0_cols v_search_levels0_high v_search_levels0_wide v_search_levels0_folds v_search_levels0_wrong v_search_levels0_more v_search_levels0_rowOf v_search_levels0_colOf v_search_levels0_below v_search_levels0_face v_search_levels0_worn v_search_levels0_last v_search_levels0_bend v_search_levels0_tall v_search_levels1_rows v_search_levels1_cols v_search_levels1_high v_search_levels1_wide v_search_levels1_folds v_search_levels1_wrong v_search_levels1_more v_search_levels1_rowOf v_search_levels1_colOf v_search_levels1_below v_search_levels1_face v_search_levels1_worn v_search_levels1_last v_search_levels1_bend v_search_levels1_tall v_search_levels2_rows v_search_levels2_cols v_search_levels2_high v_search_levels2_wide v_search_levels2_folds v_search_levels2_wrong v_search_levels2_more v_search_levels2_rowOf v_search_levels2_colOf v_search_levels2_below v_search_levels2_face v_search_levels2_worn v_search_levels2_last v_search_levels2_bend v_search_levels2_tall v_search_levels3_rows v_search_levels3_cols v_search_levels3_high v_search_levels3_wide v_search_levels3_folds v_search_levels3_wrong v_search_levels3_more v_search_levels3_rowOf v_search_levels3_colOf v_search_levels3_below v_search_levels3_face v_search_levels3_worn v_search_levels3_last v_search_levels3_bend v_search_levels3_tall v_search_path v_search_best v_strip_list v_strip_found v_strip_at v_changes_value v_changes_done v_changes_size v_changes_before v_changes_after v_foldings_size v_foldings_ran v_foldings_number v_foldings_kinds v_foldings_trace v_shelves0_holds v_shelves0_body v_shelves0_sort v_shelves0_size v_shelves0_items v_shelves1_holds v_shelves1_body v_shelves1_sort v_shelves1_size v_shelves1_items v_shelves2_holds v_shelves2_body v_shelves2_sort v_shelves2_size v_shelves2_items v_shelves3_holds v_shelves3_body v_shelves3_sort v_shelves3_size v_shelves3_items v_shelves4_holds v_shelves4_body v_shelves4_sort v_shelves4_size v_shelves4_items v_shelves5_holds v_shelves5_body v_shelves5_sort v_shelves5_size v_shelves5_items m_keptMany m_done m_rowsOf m_columnsOf m_folded m_wronged m_tapeMany m_textMany q_base q_at q_ends q_fault q_opened q_bentMany q_bentWrong q_moreWorn m_planned q_allWrong q_allWorn q_z m_wishedField m_isFound m_bestWrong m_bestWorn m_bestMany m_soughtBy m_sought m_soughtAt m_foundMany m_foundOrder m_isKept m_imageRows m_imageColumns m_imageFolded m_imageWronged m_bodies m_ran m_ownKind m_ownNumber m_limit m_changeWas m_changeIs q_shapeRows q_shapeColumns q_row q_column q_below q_face q_worn q_lastBend m_tape m_text q_names q_bends q_high q_to q_pileSize m_planLine m_planWay m_way1 m_bestWay m_order1 m_placeIn m_bodyKind m_trace m_shelf m_many m_items m_carried H locs u_0 u_1 y_0 u_3 u_4 u_5 u_6 u_7 u_8 u_9 y_1 u_11 u_12 u_13 u_14 u_15 u_16 u_17 u_18 t_0 z_0 z_1 t_3 t_4 t_5 t_6 t_7 w_0 hr_1 hr_2 hr_3 w_4 hP hD hS)
end
