/-! what begins with 7 -/
set_option maxHeartbeats 8000000 in
set_option maxRecDepth 100000 in
theorem sg_w7_6 : fX7_grow 700 8 7 (0 + 1) ((((10 : Int32) * 0) + 6) + 1) sg_q7_6 ((mm_zs 8).set 7 396) (mm_is [-1, -1, -1, -1, -1, -1, -1] 6 0) = some (sg_q7_7, (mm_zs 8).set 7 462, [-1, -1, -1, -1, -1, -1, 0]) := ck_3s (by decide +kernel)
