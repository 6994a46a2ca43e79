/-! the orders of six -/
set_option maxHeartbeats 8000000 in
set_option maxRecDepth 100000 in
theorem sg_e6 : sg_en 9 6 0 0 0 (mm_zs 7) (mm_zs 7) = some (sg_u6, [5, 4, 3, 2, 1, 0, 0], [5, 4, 3, 2, 1, 0, 0]) := sg_cks (by decide +kernel)
