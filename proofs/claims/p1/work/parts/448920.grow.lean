/-! seven, in the class, field by field -/
def ck_3 (x : Option (List Int32 × List Int32 × List Int32)) (a0 : List Int32) (a1 : List Int32) (a2 : List Int32) : Bool := match x with
  | some (b0, b1, b2) => decide (b0 = a0) && (decide (b1 = a1) && (decide (b2 = a2)))
  | none => false
theorem ck_3s {x : Option (List Int32 × List Int32 × List Int32)} {a0 : List Int32} {a1 : List Int32} {a2 : List Int32} (h : ck_3 x a0 a1 a2 = true) : x = some (a0, a1, a2) := by
  cases x with
  | none => cases h
  | some b =>
    obtain ⟨b0, b1, b2⟩ := b
    simp only [ck_3, Bool.and_eq_true, decide_eq_true_eq] at h
    obtain ⟨h0, h1, h2⟩ := h
    rw [h0, h1, h2]
def sg_q7_0 : List Int32 := mm_zs 218 ++ (([] : List (Int32 × Int32 × Int32)).map (fun u => u.1) ++ mm_zs 462)
def sg_q7_1 : List Int32 := mm_zs 218 ++ ((sg_u7_0).map (fun u => u.1) ++ mm_zs 396)
def sg_q7_2 : List Int32 := mm_zs 218 ++ ((sg_u7_0 ++ (sg_u7_1)).map (fun u => u.1) ++ mm_zs 330)
def sg_q7_3 : List Int32 := mm_zs 218 ++ ((sg_u7_0 ++ (sg_u7_1 ++ (sg_u7_2))).map (fun u => u.1) ++ mm_zs 264)
def sg_q7_4 : List Int32 := mm_zs 218 ++ ((sg_u7_0 ++ (sg_u7_1 ++ (sg_u7_2 ++ (sg_u7_3)))).map (fun u => u.1) ++ mm_zs 198)
def sg_q7_5 : List Int32 := mm_zs 218 ++ ((sg_u7_0 ++ (sg_u7_1 ++ (sg_u7_2 ++ (sg_u7_3 ++ (sg_u7_4))))).map (fun u => u.1) ++ mm_zs 132)
def sg_q7_6 : List Int32 := mm_zs 218 ++ ((sg_u7_0 ++ (sg_u7_1 ++ (sg_u7_2 ++ (sg_u7_3 ++ (sg_u7_4 ++ (sg_u7_5)))))).map (fun u => u.1) ++ mm_zs 66)
def sg_q7_7 : List Int32 := mm_zs 218 ++ ((sg_u7_0 ++ (sg_u7_1 ++ (sg_u7_2 ++ (sg_u7_3 ++ (sg_u7_4 ++ (sg_u7_5 ++ (sg_u7_6))))))).map (fun u => u.1) ++ mm_zs 0)
theorem sg_g1 (go : Int32 → Int32 → Int32 → List Int32 → List Int32 → List Int32 → Option (List Int32 × List Int32 × List Int32)) (n : Nat) (x1 x2 x3 x4 y4 : Int32) (l f a l1 f1 a1 : List Int32) (R : Option (List Int32 × List Int32 × List Int32)) (h1 : ¬ x1 ≤ x4) (i1 : mm_inb x4 a.length = true) (h2 : mm_ig a x4 < 0) (c1 : fX7_crossesLaid 700 x1 (x4 - 1) (mm_is a x4 x2) = some false) (c2 : fX7_crossesLaid 700 x1 x4 (mm_is a x4 x2) = some false) (hg : go x1 (x2 + 1) ((((10 : Int32) * x3) + x4) + 1) l f (mm_is a x4 x2) = some (l1, f1, a1)) (i2 : mm_inb x4 a1.length = true) (hy : x4 + 1 = y4) (hr : fX7_grow_15 700 go n x1 x2 x3 y4 l1 f1 (mm_is a1 x4 (-1)) = R) : fX7_grow_15 700 go (n + 1) x1 x2 x3 x4 l f a = R := by
  rw [fX7_grow_15]
  dsimp only
  rw [if_neg h1, i1, if_pos h2]
  show mm_bd1 (fX7_crossesLaid 700 x1 (x4 - 1) (mm_is a x4 x2)) (fun r_10 : Bool => if r_10 = false then mm_bd1 (fX7_crossesLaid 700 x1 x4 (mm_is a x4 x2)) (fun r_13 : Bool => if r_13 = false then mm_bd3 (go x1 (x2 + 1) ((((10 : Int32) * x3) + x4) + 1) l f (mm_is a x4 x2)) (fun w_16 w_17 w_18 => fX7_grow_81 700 go (fX7_grow_15 700 go n) x1 x2 x3 x4 w_16 w_17 w_18) else _) else _) = _
  rw [c1, c2, hg]
  show mm_ck (mm_inb x4 a1.length) (fX7_grow_15 700 go n x1 x2 x3 (x4 + 1) l1 f1 (mm_is a1 x4 (-1))) = _
  rw [i2, hy]
  exact hr
