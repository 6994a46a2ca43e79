/-! what begins with 1 -/
set_option maxHeartbeats 8000000 in
set_option maxRecDepth 100000 in
theorem sg_w7_0 : fX7_grow 700 8 7 (0 + 1) ((((10 : Int32) * 0) + 0) + 1) sg_q7_0 ((mm_zs 8).set 7 0) (mm_is [-1, -1, -1, -1, -1, -1, -1] 0 0) = some (sg_q7_1, (mm_zs 8).set 7 66, [0, -1, -1, -1, -1, -1, -1]) := ck_3s (by decide +kernel)
