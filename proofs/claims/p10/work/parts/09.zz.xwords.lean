set_option maxRecDepth 100000 in
theorem wl_Law_13 : Cond.classLink "StreamForgeLaw" 13 xE1 ∈ zT := z_m 587 rfl rfl
set_option maxRecDepth 100000 in
theorem wl_Law_15 : Cond.classLink "StreamForgeLaw" 15 xE2 ∈ zT := z_m 588 rfl rfl
set_option maxRecDepth 100000 in
theorem wl_Law_35 : Cond.classLink "StreamForgeLaw" 35 xE3 ∈ zT := z_m 930 rfl rfl
set_option maxRecDepth 100000 in
theorem wl_Law_37 : Cond.classLink "StreamForgeLaw" 37 xE4 ∈ zT := z_m 931 rfl rfl
set_option maxRecDepth 100000 in
theorem yi_Law_script : z_yW y_Law_script method_3_code 5 (some .int) [(0, 9, 12, 13), (0, 9, 16, 15)] 3 := ⟨z_m 585 rfl rfl, z_m 119 rfl rfl, z_m 586 rfl rfl, nc1_Law, nc2_Law, by decide +kernel⟩
set_option maxRecDepth 100000 in
theorem yi_Law_clear : z_yW y_Law_clear method_4_code 4 (some .int) [(0, 9, 12, 13)] 3 := ⟨z_m 693 rfl rfl, z_m 119 rfl rfl, z_m 694 rfl rfl, nc1_Law, nc2_Law, by decide +kernel⟩
set_option maxRecDepth 100000 in
theorem yi_Law_parse : z_yW y_Law_parse method_5_code 3 (some .int) [(0, 8, 11, 13)] 2 := ⟨z_m 704 rfl rfl, z_m 119 rfl rfl, z_m 705 rfl rfl, nc1_Law, nc2_Law, by decide +kernel⟩
set_option maxRecDepth 100000 in
theorem yi_Law_line : z_yW y_Law_line method_6_code 7 (some .int) [(0, 11, 14, 13), (0, 11, 18, 15)] 4 := ⟨z_m 914 rfl rfl, z_m 119 rfl rfl, z_m 915 rfl rfl, nc1_Law, nc2_Law, by decide +kernel⟩
set_option maxRecDepth 100000 in
theorem yi_Law_more : z_yW y_Law_more method_7_code 5 (some .int) [(0, 9, 12, 13), (0, 9, 16, 15)] 3 := ⟨z_m 921 rfl rfl, z_m 119 rfl rfl, z_m 922 rfl rfl, nc1_Law, nc2_Law, by decide +kernel⟩
set_option maxRecDepth 100000 in
theorem yi_Law_run : z_yW y_Law_run method_8_code 3 (some .int) [(0, 8, 11, 15), (0, 8, 14, 35), (0, 8, 17, 37)] 2 := ⟨z_m 928 rfl rfl, z_m 119 rfl rfl, z_m 929 rfl rfl, nc1_Law, nc2_Law, by decide +kernel⟩
set_option maxRecDepth 100000 in
theorem yi_Law_out : z_yW y_Law_out method_9_code 4 (some .int) [(0, 9, 12, 35)] 3 := ⟨z_m 1136 rfl rfl, z_m 119 rfl rfl, z_m 1137 rfl rfl, nc1_Law, nc2_Law, by decide +kernel⟩
set_option maxRecDepth 100000 in
theorem yi_Law_ran : z_yW y_Law_ran method_10_code 4 (some .int) [(0, 9, 12, 13)] 3 := ⟨z_m 1146 rfl rfl, z_m 119 rfl rfl, z_m 1147 rfl rfl, nc1_Law, nc2_Law, by decide +kernel⟩
set_option maxRecDepth 100000 in
theorem yi_Law_match : z_yW y_Law_match method_11_code 6 (some .int) [(0, 12, 15, 13), (0, 12, 19, 35), (0, 12, 23, 15)] 5 := ⟨z_m 1153 rfl rfl, z_m 119 rfl rfl, z_m 1154 rfl rfl, nc1_Law, nc2_Law, by decide +kernel⟩
set_option maxRecDepth 100000 in
theorem yi_Law_count : z_yW y_Law_count method_12_code 4 (some .int) [(0, 9, 12, 13)] 3 := ⟨z_m 1165 rfl rfl, z_m 119 rfl rfl, z_m 1166 rfl rfl, nc1_Law, nc2_Law, by decide +kernel⟩
set_option maxRecDepth 100000 in
theorem wl_SF_61 : Cond.classLink "StreamForge" 61 xE1 ∈ zT := z_m 599 rfl rfl
set_option maxRecDepth 100000 in
theorem at_SF_63 : ∀ w ∈ Bundle.ownAtoms0 "StreamForge" 63 xE1 z_nm, w ∈ zT ∨ w ∈ z_bad := z_msb [133, 621, 630, 635, 638, 640, 622, 623, 147, 148, 624, 629, 636, 652, 611, 653, 613, 654, 615, 625, 5002, 627, 5003, 617, 642, 643, 644, 645, 5004, 645, 646, 647, 648, 5005, 648, 649, 650, 622, 5006, 641, 600, 5007, 608, 609, 610, 612, 614, 616, 5000, 5001, 651, 619, 618] rfl rfl
set_option maxRecDepth 100000 in
theorem wl_SF_72 : Cond.classLink "StreamForge" 72 xE2 ∈ zT := z_m 670 rfl rfl
set_option maxRecDepth 100000 in
theorem at_SF_74 : ∀ w ∈ Bundle.ownAtoms0 "StreamForge" 74 xE2 z_nm, w ∈ zT ∨ w ∈ z_bad := z_msb [133, 621, 630, 635, 638, 640, 622, 623, 147, 148, 624, 629, 636, 652, 611, 653, 613, 654, 615, 625, 5002, 627, 5003, 617, 680, 681, 682, 645, 5004, 645, 646, 647, 648, 5005, 648, 649, 650, 622, 5006, 679, 671, 5008, 673, 633, 674, 675, 676, 677, 5000, 5001, 651, 619, 678] rfl rfl
set_option maxRecDepth 100000 in
theorem wl_SF_113 : Cond.classLink "StreamForge" 113 xE3 ∈ zT := z_m 1143 rfl rfl
set_option maxRecDepth 100000 in
theorem at_SF_115 : ∀ w ∈ Bundle.ownAtoms0 "StreamForge" 115 xE3 z_nm, w ∈ zT ∨ w ∈ z_bad := z_msb [133, 621, 630, 635, 638, 640, 622, 623, 147, 148, 624, 629, 636, 652, 611, 653, 613, 654, 615, 625, 5002, 627, 5003, 617, 977, 978, 979, 645, 5004, 645, 646, 647, 648, 5005, 648, 649, 650, 622, 5006, 1144, 968, 5009, 970, 634, 971, 972, 973, 974, 5000, 5001, 651, 619, 975] rfl rfl
set_option maxRecDepth 100000 in
theorem wl_Ed_73 : Cond.classLink "StreamForge$Editor" 73 xE4 ∈ zT := z_m 987 rfl rfl
set_option maxRecDepth 100000 in
theorem at_Ed_75 : ∀ w ∈ Bundle.ownAtoms0 "StreamForge$Editor" 75 xE4 z_nm, w ∈ zT ∨ w ∈ z_bad := z_msb [133, 621, 630, 635, 638, 640, 622, 623, 147, 148, 624, 629, 636, 652, 611, 653, 613, 654, 615, 625, 5002, 627, 5003, 617, 997, 998, 999, 645, 5004, 645, 646, 647, 648, 5005, 648, 649, 650, 622, 5006, 996, 988, 5010, 990, 632, 991, 992, 993, 994, 5000, 5001, 651, 619, 995] rfl rfl
set_option maxRecDepth 100000 in
theorem wl_Ed_140 : Cond.classLink "StreamForge$Editor" 140 xE3 ∈ zT := z_m 967 rfl rfl
set_option maxRecDepth 100000 in
theorem at_Ed_142 : ∀ w ∈ Bundle.ownAtoms0 "StreamForge$Editor" 142 xE3 z_nm, w ∈ zT ∨ w ∈ z_bad := z_msb [133, 621, 630, 635, 638, 640, 622, 623, 147, 148, 624, 629, 636, 652, 611, 653, 613, 654, 615, 625, 5002, 627, 5003, 617, 977, 978, 979, 645, 5004, 645, 646, 647, 648, 5005, 648, 649, 650, 622, 5006, 976, 968, 5009, 970, 634, 971, 972, 973, 974, 5000, 5001, 651, 619, 975] rfl rfl
set_option maxRecDepth 100000 in
theorem wi_x1 : Cond.initialized xE1 ∈ zT := z_m 136 rfl rfl
set_option maxRecDepth 100000 in
theorem wi_x2 : Cond.initialized xE2 ∈ zT := z_m 137 rfl rfl
set_option maxRecDepth 100000 in
theorem wi_x3 : Cond.initialized xE3 ∈ zT := z_m 138 rfl rfl
set_option maxRecDepth 100000 in
theorem wi_x4 : Cond.initialized xE4 ∈ zT := z_m 139 rfl rfl
