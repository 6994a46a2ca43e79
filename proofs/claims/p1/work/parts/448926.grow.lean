/-! what begins with 6 -/
set_option maxHeartbeats 8000000 in
set_option maxRecDepth 100000 in
theorem sg_w7_5 : fX7_grow 700 8 7 (0 + 1) ((((10 : Int32) * 0) + 5) + 1) sg_q7_5 ((mm_zs 8).set 7 330) (mm_is [-1, -1, -1, -1, -1, -1, -1] 5 0) = some (sg_q7_6, (mm_zs 8).set 7 396, [-1, -1, -1, -1, -1, 0, -1]) := ck_3s (by decide +kernel)
