/-! how many, in the class -/
def ck_h (x : Option (Int32 × List Int32 × List Int32 × List Int32)) (a0 : Int32) (a1 : List Int32) (a2 : List Int32) (a3 : List Int32) : Bool := match x with
  | some (b0, b1, b2, b3) => decide (b0 = a0) && (decide (b1 = a1) && (decide (b2 = a2) && (decide (b3 = a3))))
  | none => false
theorem ck_hs {x : Option (Int32 × List Int32 × List Int32 × List Int32)} {a0 : Int32} {a1 : List Int32} {a2 : List Int32} {a3 : List Int32} (h : ck_h x a0 a1 a2 a3 = true) : x = some (a0, a1, a2, a3) := by
  cases x with
  | none => cases h
  | some b =>
    obtain ⟨b0, b1, b2, b3⟩ := b
    simp only [ck_h, Bool.and_eq_true, decide_eq_true_eq] at h
    obtain ⟨h0, h1, h2, h3⟩ := h
    rw [h0, h1, h2, h3]
def sg_u7 : List (Int32 × Int32 × Int32) := sg_u7_0 ++ (sg_u7_1 ++ (sg_u7_2 ++ (sg_u7_3 ++ (sg_u7_4 ++ (sg_u7_5 ++ (sg_u7_6 ++ []))))))
def sg_l2 : List Int32 := mm_zs 0 ++ (sg_u2.map (fun u => u.1) ++ mm_zs 678)
def sg_f2 : List Int32 := (mm_zs 8).set 2 2
def sg_l3 : List Int32 := mm_zs 2 ++ (sg_u3.map (fun u => u.1) ++ mm_zs 672)
def sg_f3 : List Int32 := (mm_zs 8).set 3 6
def sg_l4 : List Int32 := mm_zs 8 ++ (sg_u4.map (fun u => u.1) ++ mm_zs 656)
def sg_f4 : List Int32 := (mm_zs 8).set 4 16
def sg_l5 : List Int32 := mm_zs 24 ++ (sg_u5.map (fun u => u.1) ++ mm_zs 606)
def sg_f5 : List Int32 := (mm_zs 8).set 5 50
def sg_l6 : List Int32 := mm_zs 74 ++ (sg_u6.map (fun u => u.1) ++ mm_zs 462)
def sg_f6 : List Int32 := (mm_zs 8).set 6 144
def sg_l7 : List Int32 := mm_zs 218 ++ (sg_u7.map (fun u => u.1) ++ mm_zs 0)
def sg_f7 : List Int32 := (mm_zs 8).set 7 462
set_option maxHeartbeats 8000000 in
set_option maxRecDepth 100000 in
theorem sg_h2 : fX7_howMany 700 2 (mm_zs 680) (mm_zs 8) (mm_zs 7) = some (2, sg_l2, sg_f2, List.replicate 7 (-1)) := ck_hs (by decide +kernel)
set_option maxHeartbeats 8000000 in
set_option maxRecDepth 100000 in
theorem sg_h3 : fX7_howMany 700 3 (mm_zs 680) (mm_zs 8) (mm_zs 7) = some (6, sg_l3, sg_f3, List.replicate 7 (-1)) := ck_hs (by decide +kernel)
set_option maxHeartbeats 8000000 in
set_option maxRecDepth 100000 in
theorem sg_h4 : fX7_howMany 700 4 (mm_zs 680) (mm_zs 8) (mm_zs 7) = some (16, sg_l4, sg_f4, List.replicate 7 (-1)) := ck_hs (by decide +kernel)
set_option maxHeartbeats 8000000 in
set_option maxRecDepth 100000 in
theorem sg_h5 : fX7_howMany 700 5 (mm_zs 680) (mm_zs 8) (mm_zs 7) = some (50, sg_l5, sg_f5, List.replicate 7 (-1)) := ck_hs (by decide +kernel)
set_option maxHeartbeats 8000000 in
set_option maxRecDepth 100000 in
theorem sg_h6 : fX7_howMany 700 6 (mm_zs 680) (mm_zs 8) (mm_zs 7) = some (144, sg_l6, sg_f6, List.replicate 7 (-1)) := ck_hs (by decide +kernel)
