/-! orders, by, with: the facts of each list -/
set_option maxHeartbeats 8000000 in
set_option maxRecDepth 100000 in
theorem sg_e7 : sg_en 9 7 0 0 0 (mm_zs 7) (mm_zs 7) = some (sg_u7, [6, 5, 4, 3, 2, 1, 0], [6, 5, 4, 3, 2, 1, 0]) := by
  have z : mm_zs 7 = [0, 0, 0, 0, 0, 0, 0] := rfl
  rw [z, sg_en]
  dsimp only
  rw [if_neg (by decide)]
  unfold sg_u7
  have k7 : sg_en16 (sg_en 8) (692 + 1) 7 0 0 0 7 [6, 5, 4, 3, 2, 1, 0] [6, 5, 4, 3, 2, 1, 0] = some ([], [6, 5, 4, 3, 2, 1, 0], [6, 5, 4, 3, 2, 1, 0]) := rfl
  have k6 : sg_en16 (sg_en 8) (693 + 1) 7 0 0 0 6 [5, 6, 4, 3, 2, 1, 0] [6, 5, 4, 3, 2, 0, 1] = some (sg_u7_6 ++ [], [6, 5, 4, 3, 2, 1, 0], [6, 5, 4, 3, 2, 1, 0]) := sg_one 8 693 7 0 0 0 6 7 _ _ _ _ _ _ _ _ (by decide) (by decide) (by decide) (by decide) (by decide) sg_e7_6 k7
  have k5 : sg_en16 (sg_en 8) (694 + 1) 7 0 0 0 5 [4, 6, 5, 3, 2, 1, 0] [6, 5, 4, 3, 0, 2, 1] = some (sg_u7_5 ++ (sg_u7_6 ++ []), [6, 5, 4, 3, 2, 1, 0], [6, 5, 4, 3, 2, 1, 0]) := sg_one 8 694 7 0 0 0 5 6 _ _ _ _ _ _ _ _ (by decide) (by decide) (by decide) (by decide) (by decide) sg_e7_5 k6
  have k4 : sg_en16 (sg_en 8) (695 + 1) 7 0 0 0 4 [3, 6, 5, 4, 2, 1, 0] [6, 5, 4, 0, 3, 2, 1] = some (sg_u7_4 ++ (sg_u7_5 ++ (sg_u7_6 ++ [])), [6, 5, 4, 3, 2, 1, 0], [6, 5, 4, 3, 2, 1, 0]) := sg_one 8 695 7 0 0 0 4 5 _ _ _ _ _ _ _ _ (by decide) (by decide) (by decide) (by decide) (by decide) sg_e7_4 k5
  have k3 : sg_en16 (sg_en 8) (696 + 1) 7 0 0 0 3 [2, 6, 5, 4, 3, 1, 0] [6, 5, 0, 4, 3, 2, 1] = some (sg_u7_3 ++ (sg_u7_4 ++ (sg_u7_5 ++ (sg_u7_6 ++ []))), [6, 5, 4, 3, 2, 1, 0], [6, 5, 4, 3, 2, 1, 0]) := sg_one 8 696 7 0 0 0 3 4 _ _ _ _ _ _ _ _ (by decide) (by decide) (by decide) (by decide) (by decide) sg_e7_3 k4
  have k2 : sg_en16 (sg_en 8) (697 + 1) 7 0 0 0 2 [1, 6, 5, 4, 3, 2, 0] [6, 0, 5, 4, 3, 2, 1] = some (sg_u7_2 ++ (sg_u7_3 ++ (sg_u7_4 ++ (sg_u7_5 ++ (sg_u7_6 ++ [])))), [6, 5, 4, 3, 2, 1, 0], [6, 5, 4, 3, 2, 1, 0]) := sg_one 8 697 7 0 0 0 2 3 _ _ _ _ _ _ _ _ (by decide) (by decide) (by decide) (by decide) (by decide) sg_e7_2 k3
  have k1 : sg_en16 (sg_en 8) (698 + 1) 7 0 0 0 1 [0, 6, 5, 4, 3, 2, 1] [0, 6, 5, 4, 3, 2, 1] = some (sg_u7_1 ++ (sg_u7_2 ++ (sg_u7_3 ++ (sg_u7_4 ++ (sg_u7_5 ++ (sg_u7_6 ++ []))))), [6, 5, 4, 3, 2, 1, 0], [6, 5, 4, 3, 2, 1, 0]) := sg_one 8 698 7 0 0 0 1 2 _ _ _ _ _ _ _ _ (by decide) (by decide) (by decide) (by decide) (by decide) sg_e7_1 k2
  have k0 : sg_en16 (sg_en 8) (699 + 1) 7 0 0 0 0 [0, 0, 0, 0, 0, 0, 0] [0, 0, 0, 0, 0, 0, 0] = some (sg_u7_0 ++ (sg_u7_1 ++ (sg_u7_2 ++ (sg_u7_3 ++ (sg_u7_4 ++ (sg_u7_5 ++ (sg_u7_6 ++ [])))))), [6, 5, 4, 3, 2, 1, 0], [6, 5, 4, 3, 2, 1, 0]) := sg_one 8 699 7 0 0 0 0 1 _ _ _ _ _ _ _ _ (by decide) (by decide) (by decide) (by decide) (by decide) sg_e7_0 k1
  exact k0
set_option maxHeartbeats 8000000 in
set_option maxRecDepth 100000 in
theorem sg_a2 : sg_u2.all (sg_ok 2) = true := by decide +kernel
set_option maxHeartbeats 8000000 in
set_option maxRecDepth 100000 in
theorem sg_a3 : sg_u3.all (sg_ok 3) = true := by decide +kernel
set_option maxHeartbeats 8000000 in
set_option maxRecDepth 100000 in
theorem sg_a4 : sg_u4.all (sg_ok 4) = true := by decide +kernel
set_option maxHeartbeats 8000000 in
set_option maxRecDepth 100000 in
theorem sg_a5 : sg_u5.all (sg_ok 5) = true := by decide +kernel
set_option maxHeartbeats 8000000 in
set_option maxRecDepth 100000 in
theorem sg_a6 : sg_u6.all (sg_ok 6) = true := by decide +kernel
set_option maxHeartbeats 8000000 in
set_option maxRecDepth 100000 in
theorem sg_a7_0 : sg_u7_0.all (sg_ok 7) = true := by decide +kernel
set_option maxHeartbeats 8000000 in
set_option maxRecDepth 100000 in
theorem sg_a7_1 : sg_u7_1.all (sg_ok 7) = true := by decide +kernel
set_option maxHeartbeats 8000000 in
set_option maxRecDepth 100000 in
theorem sg_a7_2 : sg_u7_2.all (sg_ok 7) = true := by decide +kernel
set_option maxHeartbeats 8000000 in
set_option maxRecDepth 100000 in
theorem sg_a7_3 : sg_u7_3.all (sg_ok 7) = true := by decide +kernel
set_option maxHeartbeats 8000000 in
set_option maxRecDepth 100000 in
theorem sg_a7_4 : sg_u7_4.all (sg_ok 7) = true := by decide +kernel
set_option maxHeartbeats 8000000 in
set_option maxRecDepth 100000 in
theorem sg_a7_5 : sg_u7_5.all (sg_ok 7) = true := by decide +kernel
set_option maxHeartbeats 8000000 in
set_option maxRecDepth 100000 in
theorem sg_a7_6 : sg_u7_6.all (sg_ok 7) = true := by decide +kernel
set_option maxHeartbeats 8000000 in
set_option maxRecDepth 100000 in
theorem sg_a7 : sg_u7.all (sg_ok 7) = true := by
  unfold sg_u7
  rw [List.all_append, List.all_append, List.all_append, List.all_append, List.all_append, List.all_append, List.all_append, sg_a7_0, sg_a7_1, sg_a7_2, sg_a7_3, sg_a7_4, sg_a7_5, sg_a7_6]
  rfl
