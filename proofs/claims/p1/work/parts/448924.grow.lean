/-! what begins with 4 -/
set_option maxHeartbeats 8000000 in
set_option maxRecDepth 100000 in
theorem sg_w7_3 : fX7_grow 700 8 7 (0 + 1) ((((10 : Int32) * 0) + 3) + 1) sg_q7_3 ((mm_zs 8).set 7 198) (mm_is [-1, -1, -1, -1, -1, -1, -1] 3 0) = some (sg_q7_4, (mm_zs 8).set 7 264, [-1, -1, -1, 0, -1, -1, -1]) := ck_3s (by decide +kernel)
