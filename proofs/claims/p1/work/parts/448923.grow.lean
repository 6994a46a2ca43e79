/-! what begins with 3 -/
set_option maxHeartbeats 8000000 in
set_option maxRecDepth 100000 in
theorem sg_w7_2 : fX7_grow 700 8 7 (0 + 1) ((((10 : Int32) * 0) + 2) + 1) sg_q7_2 ((mm_zs 8).set 7 132) (mm_is [-1, -1, -1, -1, -1, -1, -1] 2 0) = some (sg_q7_3, (mm_zs 8).set 7 198, [-1, -1, 0, -1, -1, -1, -1]) := ck_3s (by decide +kernel)
