/-! line 1, way 4 -/
set_option maxHeartbeats 8000000 in
set_option maxRecDepth 100000 in
theorem p9_4_0 : e9_b 700 (eX9_goesDeeper 700 3) 1 0 4 2 1 0 2 4 (-1) 0 0 0 0 0 4 0 4 0 false 0 0 0 z9_limit s9_27 s9_25 g9_row s9_26 s9_28 s9_28 s9_29 s9_29 (mm_zs 120) (mm_zs 120) (mm_zs 6) s9_30 s9_31 (mm_zs 32) s9_32 s9_33 [] = some (0, 0, 0, 0, 0, 2, 0, 2, false, 0, 0, 0, s9_34, s9_35, g9_row, s9_36, s9_37, s9_38, s9_39, s9_40, (mm_zs 6), s9_41, s9_42, s9_12, s9_43, s9_44, []) := ck_27s (by decide +kernel)
set_option maxHeartbeats 8000000 in
set_option maxRecDepth 100000 in
theorem p9_4_1 : e9_b 700 (eX9_goesDeeper 700 3) 1 0 4 2 1 1 2 4 (-1) 0 0 0 0 0 2 0 2 0 false 0 0 0 z9_limit s9_34 s9_35 g9_row s9_36 s9_37 s9_38 s9_39 s9_40 (mm_zs 120) (mm_zs 120) (mm_zs 6) s9_41 s9_42 s9_12 s9_43 s9_44 [] = some (0, 0, 0, 0, 0, 2, 0, 2, false, 0, 0, 0, s9_34, s9_35, g9_row, s9_36, s9_45, s9_38, s9_39, s9_46, (mm_zs 6), s9_47, s9_48, s9_12, s9_43, s9_49, []) := ck_27s (by decide +kernel)
set_option maxHeartbeats 8000000 in
set_option maxRecDepth 100000 in
theorem p9_4_2 : e9_b 700 (eX9_goesDeeper 700 3) 1 0 4 2 1 2 2 4 (-1) 0 0 0 0 0 2 0 2 0 false 0 0 0 z9_limit s9_34 s9_35 g9_row s9_36 s9_45 s9_38 s9_39 s9_46 (mm_zs 120) (mm_zs 120) (mm_zs 6) s9_47 s9_48 s9_12 s9_43 s9_49 [] = some (0, 0, 0, 0, 0, 2, 0, 2, false, 0, 0, 0, s9_34, s9_35, g9_row, s9_50, s9_51, s9_52, s9_39, s9_40, (mm_zs 6), s9_41, s9_53, s9_22, s9_43, s9_54, []) := ck_27s (by decide +kernel)
set_option maxHeartbeats 8000000 in
set_option maxRecDepth 100000 in
theorem p9_4_3 : e9_b 700 (eX9_goesDeeper 700 3) 1 0 4 2 1 3 2 4 (-1) 0 0 0 0 0 2 0 2 0 false 0 0 0 z9_limit s9_34 s9_35 g9_row s9_50 s9_51 s9_52 s9_39 s9_40 (mm_zs 120) (mm_zs 120) (mm_zs 6) s9_41 s9_53 s9_22 s9_43 s9_54 [] = some (0, 0, 0, 0, 0, 2, 0, 2, false, 0, 0, 0, s9_34, s9_35, g9_row, s9_50, s9_55, s9_52, s9_39, s9_46, (mm_zs 6), s9_47, s9_56, s9_22, s9_43, s9_57, []) := ck_27s (by decide +kernel)
set_option maxHeartbeats 8000000 in
set_option maxRecDepth 100000 in
theorem p9_4_4 : e9_b 700 (eX9_goesDeeper 700 3) 1 0 4 2 2 0 2 4 (-1) 0 0 0 0 0 2 0 2 0 false 0 0 0 z9_limit s9_34 s9_35 g9_row s9_50 s9_55 s9_52 s9_39 s9_46 (mm_zs 120) (mm_zs 120) (mm_zs 6) s9_47 s9_56 s9_22 s9_43 s9_57 [] = some (0, 0, 0, 0, 0, 4, 0, 4, false, 0, 0, 0, s9_58, s9_59, g9_row, s9_60, s9_61, s9_62, s9_63, s9_64, (mm_zs 6), s9_65, s9_66, (mm_zs 32), s9_67, s9_68, a9_4) := ck_27s (by decide +kernel)
set_option maxHeartbeats 8000000 in
set_option maxRecDepth 100000 in
theorem p9_4_5 : e9_b 700 (eX9_goesDeeper 700 3) 1 0 4 2 2 1 2 4 (-1) 0 0 0 0 0 4 0 4 0 false 0 0 0 z9_limit s9_58 s9_59 g9_row s9_60 s9_61 s9_62 s9_63 s9_64 (mm_zs 120) (mm_zs 120) (mm_zs 6) s9_65 s9_66 (mm_zs 32) s9_67 s9_68 a9_4 = some (0, 0, 0, 0, 0, 4, 0, 4, false, 0, 0, 0, s9_58, s9_59, g9_row, s9_60, s9_69, s9_62, s9_63, s9_70, (mm_zs 6), s9_65, s9_71, (mm_zs 32), s9_67, s9_72, a9_8) := ck_27s (by decide +kernel)
