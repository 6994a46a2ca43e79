/-! seven, in the class -/
theorem sg_gw (M : Nat) (x1 x2 x3 : Int32) (l f a : List Int32) (h : ¬ x2 = x1) : fX7_grow 700 (M + 1) x1 x2 x3 l f a = fX7_grow_15 700 (fX7_grow 700 M) 700 x1 x2 x3 0 l f a := by
  rw [fX7_grow]
  unfold fX7_growo
  rw [if_neg h]
theorem sg_b1 {α β : Type} (a : α) (k : α → Option β) : mm_bd1 (some a) k = k a := rfl
theorem sg_b3 {α β γ δ : Type} (a : α) (b : β) (c : γ) (k : α → β → γ → Option δ) : mm_bd3 (some (a, b, c)) k = k a b c := rfl
set_option maxHeartbeats 8000000 in
set_option maxRecDepth 100000 in
theorem sg_h7 : fX7_howMany 700 7 (mm_zs 680) (mm_zs 8) (mm_zs 7) = some (462, sg_l7, sg_f7, List.replicate 7 (-1)) := by
  have q0 : sg_q7_0 = mm_zs 680 := by decide +kernel
  have q7 : sg_q7_7 = sg_l7 := by decide +kernel
  have f0 : (mm_zs 8).set 7 0 = mm_zs 8 := by decide
  have k7 : fX7_grow_15 700 (fX7_grow 700 8) (692 + 1) 7 0 0 7 sg_q7_7 ((mm_zs 8).set 7 462) [-1, -1, -1, -1, -1, -1, -1] = some (sg_q7_7, (mm_zs 8).set 7 462, [-1, -1, -1, -1, -1, -1, -1]) := rfl
  have k6 : fX7_grow_15 700 (fX7_grow 700 8) (693 + 1) 7 0 0 6 sg_q7_6 ((mm_zs 8).set 7 396) [-1, -1, -1, -1, -1, -1, -1] = some (sg_q7_7, (mm_zs 8).set 7 462, [-1, -1, -1, -1, -1, -1, -1]) := sg_g1 (fX7_grow 700 8) 693 7 0 0 6 7 _ _ _ _ _ _ _ (by decide) (by decide) (by decide) (by decide +kernel) (by decide +kernel) sg_w7_6 (by decide) (by decide) k7
  have k5 : fX7_grow_15 700 (fX7_grow 700 8) (694 + 1) 7 0 0 5 sg_q7_5 ((mm_zs 8).set 7 330) [-1, -1, -1, -1, -1, -1, -1] = some (sg_q7_7, (mm_zs 8).set 7 462, [-1, -1, -1, -1, -1, -1, -1]) := sg_g1 (fX7_grow 700 8) 694 7 0 0 5 6 _ _ _ _ _ _ _ (by decide) (by decide) (by decide) (by decide +kernel) (by decide +kernel) sg_w7_5 (by decide) (by decide) k6
  have k4 : fX7_grow_15 700 (fX7_grow 700 8) (695 + 1) 7 0 0 4 sg_q7_4 ((mm_zs 8).set 7 264) [-1, -1, -1, -1, -1, -1, -1] = some (sg_q7_7, (mm_zs 8).set 7 462, [-1, -1, -1, -1, -1, -1, -1]) := sg_g1 (fX7_grow 700 8) 695 7 0 0 4 5 _ _ _ _ _ _ _ (by decide) (by decide) (by decide) (by decide +kernel) (by decide +kernel) sg_w7_4 (by decide) (by decide) k5
  have k3 : fX7_grow_15 700 (fX7_grow 700 8) (696 + 1) 7 0 0 3 sg_q7_3 ((mm_zs 8).set 7 198) [-1, -1, -1, -1, -1, -1, -1] = some (sg_q7_7, (mm_zs 8).set 7 462, [-1, -1, -1, -1, -1, -1, -1]) := sg_g1 (fX7_grow 700 8) 696 7 0 0 3 4 _ _ _ _ _ _ _ (by decide) (by decide) (by decide) (by decide +kernel) (by decide +kernel) sg_w7_3 (by decide) (by decide) k4
  have k2 : fX7_grow_15 700 (fX7_grow 700 8) (697 + 1) 7 0 0 2 sg_q7_2 ((mm_zs 8).set 7 132) [-1, -1, -1, -1, -1, -1, -1] = some (sg_q7_7, (mm_zs 8).set 7 462, [-1, -1, -1, -1, -1, -1, -1]) := sg_g1 (fX7_grow 700 8) 697 7 0 0 2 3 _ _ _ _ _ _ _ (by decide) (by decide) (by decide) (by decide +kernel) (by decide +kernel) sg_w7_2 (by decide) (by decide) k3
  have k1 : fX7_grow_15 700 (fX7_grow 700 8) (698 + 1) 7 0 0 1 sg_q7_1 ((mm_zs 8).set 7 66) [-1, -1, -1, -1, -1, -1, -1] = some (sg_q7_7, (mm_zs 8).set 7 462, [-1, -1, -1, -1, -1, -1, -1]) := sg_g1 (fX7_grow 700 8) 698 7 0 0 1 2 _ _ _ _ _ _ _ (by decide) (by decide) (by decide) (by decide +kernel) (by decide +kernel) sg_w7_1 (by decide) (by decide) k2
  have k0 : fX7_grow_15 700 (fX7_grow 700 8) (699 + 1) 7 0 0 0 sg_q7_0 ((mm_zs 8).set 7 0) [-1, -1, -1, -1, -1, -1, -1] = some (sg_q7_7, (mm_zs 8).set 7 462, [-1, -1, -1, -1, -1, -1, -1]) := sg_g1 (fX7_grow 700 8) 699 7 0 0 0 1 _ _ _ _ _ _ _ (by decide) (by decide) (by decide) (by decide +kernel) (by decide +kernel) sg_w7_0 (by decide) (by decide) k1
  have k := k0
  rw [q0, f0, q7] at k
  have g : fX7_grow 700 9 7 0 0 (mm_zs 680) (mm_zs 8) (List.replicate 7 (-1)) = some (sg_l7, (mm_zs 8).set 7 462, [-1, -1, -1, -1, -1, -1, -1]) := (sg_gw 8 7 0 0 (mm_zs 680) (mm_zs 8) (List.replicate 7 (-1)) (by decide)).trans k
  unfold fX7_howMany
  rw [if_pos (by decide), sb_fill, sg_b1, g, sg_b3]
  decide +kernel
