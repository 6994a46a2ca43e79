/-! Geometry: the relation of class and reference -/
theorem fr_n {l l' : List Int32} {a b : Int} (h : fr l l' a b) (hl : l.length ≤ 1000) {k : Nat} (hk : k < l.length) (ho : (k : Int) < a ∨ b ≤ (k : Int)) : l'.getD k 0 = l.getD k 0 := by
  have e : (Int32.ofNat k).toInt = (k : Int) := Int32.toInt_ofNat_of_lt (by omega)
  have q := h.2 (Int32.ofNat k) (by omega) (by omega) (by omega)
  rw [ge_ig, ge_ig, e, Int.toNat_natCast] at q
  exact q
theorem zn_n {l : List Int32} {b lo hi : Int} (h : zn l 0 b lo hi) (hl : l.length ≤ 1000) {k : Nat} (hk : k < l.length) (hb : (k : Int) < b) : lo ≤ (l.getD k 0).toInt ∧ (l.getD k 0).toInt < hi := by
  have e : (Int32.ofNat k).toInt = (k : Int) := Int32.toInt_ofNat_of_lt (by omega)
  have q := h (Int32.ofNat k) (by omega) (by omega) (by omega) (by omega)
  rw [ge_ig, e, Int.toNat_natCast] at q
  exact q
/-- a sheet of the class and a level of the reference alike, by where the fields lie -/
def lg_w (lv : Nat) (rows cols high wide : Int32) (R C B F sR sC row col bel fac : List Int32) : Prop := sR.getD lv 0 = high ∧ sC.getD lv 0 = wide ∧ gx_w (rows.toInt * cols.toInt).toNat (32 * lv) R C B F row col bel fac
theorem lg_t {lv : Nat} {rows cols high wide : Int32} {R C B F sR sC row col bel fac sR' sC' row' col' bel' fac' : List Int32} (h : lg_w lv rows cols high wide R C B F sR sC row col bel fac) (m32 : rows.toInt * cols.toInt ≤ 32) (h1 : sR'.getD lv 0 = sR.getD lv 0) (h2 : sC'.getD lv 0 = sC.getD lv 0) (h3 : ∀ j : Nat, 32 * lv ≤ j → j < 32 * lv + 32 → row'.getD j 0 = row.getD j 0 ∧ col'.getD j 0 = col.getD j 0 ∧ bel'.getD j 0 = bel.getD j 0 ∧ fac'.getD j 0 = fac.getD j 0) : lg_w lv rows cols high wide R C B F sR' sC' row' col' bel' fac' := by
  obtain ⟨a1, a2, a3⟩ := h
  refine ⟨by rw [h1, a1], by rw [h2, a2], fun k hk => ?_⟩
  obtain ⟨b1, b2, b3, b4⟩ := h3 (32 * lv + k) (by omega) (by omega)
  obtain ⟨c1, c2, c3, c4⟩ := a3 k hk
  exact ⟨by rw [b1, c1], by rw [b2, c2], by rw [b3, c3], by rw [b4, c4]⟩
/-- the six rows of the levels 1 to 4 written, the others as they were -/
def f6_w (sR sC row col bel fac sR' sC' row' col' bel' fac' : List Int32) : Prop := fr sR sR' 1 5 ∧ fr sC sC' 1 5 ∧ fr row row' 32 160 ∧ fr col col' 32 160 ∧ fr bel bel' 32 160 ∧ fr fac fac' 32 160
theorem lg_6 {lv : Nat} {rows cols high wide : Int32} {R C B F sR sC row col bel fac sR' sC' row' col' bel' fac' : List Int32} (hl : lv = 0 ∨ lv = 5) (k1 : sR.length = 6) (k2 : sC.length = 6) (k3 : row.length = 192) (k4 : col.length = 192) (k5 : bel.length = 192) (k6 : fac.length = 192) (m32 : rows.toInt * cols.toInt ≤ 32) (f : f6_w sR sC row col bel fac sR' sC' row' col' bel' fac') (h : lg_w lv rows cols high wide R C B F sR sC row col bel fac) : lg_w lv rows cols high wide R C B F sR' sC' row' col' bel' fac' := by
  obtain ⟨f1, f2, f3, f4, f5, f6⟩ := f
  refine lg_t h m32 (fr_n f1 (by omega) (by omega) (by omega)) (fr_n f2 (by omega) (by omega) (by omega)) (fun j j0 j1 => ?_)
  exact ⟨fr_n f3 (by omega) (by omega) (by omega), fr_n f4 (by omega) (by omega) (by omega), fr_n f5 (by omega) (by omega) (by omega), fr_n f6 (by omega) (by omega) (by omega)⟩
def rl_ge (v_now_rows : Int32) (v_now_cols : Int32) (v_now_high : Int32) (v_now_wide : Int32) (v_now_folds : Int32) (v_now_rowOf : List Int32) (v_now_colOf : List Int32) (v_now_below : List Int32) (v_now_face : List Int32) (v_hasImage : Bool) (v_kept_rows : Int32) (v_kept_cols : Int32) (v_kept_high : Int32) (v_kept_wide : Int32) (v_kept_folds : Int32) (v_kept_rowOf : List Int32) (v_kept_colOf : List Int32) (v_kept_below : List Int32) (v_kept_face : List Int32) (m_rowsOf : Int32) (m_columnsOf : Int32) (m_folded : Int32) (m_isKept : Bool) (m_imageRows : Int32) (m_imageColumns : Int32) (m_imageFolded : Int32) (m_shapeRows : List Int32) (m_shapeColumns : List Int32) (m_row : List Int32) (m_column : List Int32) (m_below : List Int32) (m_face : List Int32) : Prop := m_rowsOf = v_now_rows ∧ m_columnsOf = v_now_cols ∧ m_folded = v_now_folds ∧ m_isKept = v_hasImage ∧ lg_w 0 v_now_rows v_now_cols v_now_high v_now_wide v_now_rowOf v_now_colOf v_now_below v_now_face m_shapeRows m_shapeColumns m_row m_column m_below m_face ∧ (v_hasImage = true → m_imageRows = v_kept_rows ∧ m_imageColumns = v_kept_cols ∧ m_imageFolded = v_kept_folds ∧ lg_w 5 v_kept_rows v_kept_cols v_kept_high v_kept_wide v_kept_rowOf v_kept_colOf v_kept_below v_kept_face m_shapeRows m_shapeColumns m_row m_column m_below m_face)
def gx_b (m o : Nat) (R C B F row col bel fac : List Int32) : Bool := (List.range m).all (fun k => decide (row.getD (o + k) 0 = R.getD k 0 ∧ col.getD (o + k) 0 = C.getD k 0 ∧ bel.getD (o + k) 0 = B.getD k 0 ∧ fac.getD (o + k) 0 = F.getD k 0))
theorem gx_of {m o : Nat} {R C B F row col bel fac : List Int32} (h : gx_b m o R C B F row col bel fac = true) : gx_w m o R C B F row col bel fac := fun k hk => of_decide_eq_true (List.all_eq_true.mp h k (List.mem_range.mpr hk))
theorem nw_ge : rl_ge 2 4 2 4 0 z5_rowOf z5_colOf (mm_zs 32) (mm_zs 32) false 2 4 2 4 0 z5_rowOf z5_colOf (mm_zs 32) (mm_zs 32) 2 4 0 false 0 0 0 z9_shapeRows z9_shapeColumns z9_row z9_column (mm_zs 192) (mm_zs 192) := ⟨rfl, rfl, rfl, rfl, ⟨by decide +kernel, by decide +kernel, gx_of (by decide +kernel)⟩, fun h => absurd h (by decide)⟩
