theorem nc1_Addr : ("StreamForge$Address" : String) ≠ "java/lang/invoke/MethodHandle" := by decide +kernel
theorem nc2_Addr : ("StreamForge$Address" : String) ≠ "java/lang/invoke/VarHandle" := by decide +kernel
theorem nc1_Cmd : ("StreamForge$Command" : String) ≠ "java/lang/invoke/MethodHandle" := by decide +kernel
theorem nc2_Cmd : ("StreamForge$Command" : String) ≠ "java/lang/invoke/VarHandle" := by decide +kernel
theorem nc1_Cur : ("StreamForge$Cursor" : String) ≠ "java/lang/invoke/MethodHandle" := by decide +kernel
theorem nc2_Cur : ("StreamForge$Cursor" : String) ≠ "java/lang/invoke/VarHandle" := by decide +kernel
theorem nc1_Ed : ("StreamForge$Editor" : String) ≠ "java/lang/invoke/MethodHandle" := by decide +kernel
theorem nc2_Ed : ("StreamForge$Editor" : String) ≠ "java/lang/invoke/VarHandle" := by decide +kernel
theorem nc1_It : ("StreamForge$Items" : String) ≠ "java/lang/invoke/MethodHandle" := by decide +kernel
theorem nc2_It : ("StreamForge$Items" : String) ≠ "java/lang/invoke/VarHandle" := by decide +kernel
theorem nc1_Ma : ("StreamForge$Matcher" : String) ≠ "java/lang/invoke/MethodHandle" := by decide +kernel
theorem nc2_Ma : ("StreamForge$Matcher" : String) ≠ "java/lang/invoke/VarHandle" := by decide +kernel
theorem nc1_Pa : ("StreamForge$Parser" : String) ≠ "java/lang/invoke/MethodHandle" := by decide +kernel
theorem nc2_Pa : ("StreamForge$Parser" : String) ≠ "java/lang/invoke/VarHandle" := by decide +kernel
theorem nc1_Pt : ("StreamForge$Pattern" : String) ≠ "java/lang/invoke/MethodHandle" := by decide +kernel
theorem nc2_Pt : ("StreamForge$Pattern" : String) ≠ "java/lang/invoke/VarHandle" := by decide +kernel
theorem nc1_Pr : ("StreamForge$PatternReader" : String) ≠ "java/lang/invoke/MethodHandle" := by decide +kernel
theorem nc2_Pr : ("StreamForge$PatternReader" : String) ≠ "java/lang/invoke/VarHandle" := by decide +kernel
theorem nc1_Prog : ("StreamForge$Program" : String) ≠ "java/lang/invoke/MethodHandle" := by decide +kernel
theorem nc2_Prog : ("StreamForge$Program" : String) ≠ "java/lang/invoke/VarHandle" := by decide +kernel
theorem nc1_Row : ("StreamForge$Row" : String) ≠ "java/lang/invoke/MethodHandle" := by decide +kernel
theorem nc2_Row : ("StreamForge$Row" : String) ≠ "java/lang/invoke/VarHandle" := by decide +kernel
theorem nc1_SF : ("StreamForge" : String) ≠ "java/lang/invoke/MethodHandle" := by decide +kernel
theorem nc2_SF : ("StreamForge" : String) ≠ "java/lang/invoke/VarHandle" := by decide +kernel
theorem nc1_Mod : ("StreamForgeModel" : String) ≠ "java/lang/invoke/MethodHandle" := by decide +kernel
theorem nc2_Mod : ("StreamForgeModel" : String) ≠ "java/lang/invoke/VarHandle" := by decide +kernel
theorem nc1_Law : ("StreamForgeLaw" : String) ≠ "java/lang/invoke/MethodHandle" := by decide +kernel
theorem nc2_Law : ("StreamForgeLaw" : String) ≠ "java/lang/invoke/VarHandle" := by decide +kernel
def y_SF_init : MethodName := ⟨"StreamForge", "<init>", "()V"⟩
def y_SF_script : MethodName := ⟨"StreamForge", "script", "(J)I"⟩
set_option maxRecDepth 100000 in
theorem yi_SF_script : z_yV y_SF_script prog_1_method_2_code 3 (some .int) 1 := ⟨z_m 590 rfl rfl, z_m 591 rfl rfl, z_m 120 rfl rfl, z_m 592 rfl rfl, nc1_SF, nc2_SF, by decide +kernel⟩
def y_SF_clear : MethodName := ⟨"StreamForge", "clear", "(I)I"⟩
set_option maxRecDepth 100000 in
theorem yi_SF_clear : z_yV y_SF_clear prog_1_method_3_code 3 (some .int) 1 := ⟨z_m 696 rfl rfl, z_m 697 rfl rfl, z_m 120 rfl rfl, z_m 698 rfl rfl, nc1_SF, nc2_SF, by decide +kernel⟩
def y_SF_parse : MethodName := ⟨"StreamForge", "parse", "()I"⟩
set_option maxRecDepth 100000 in
theorem yi_SF_parse : z_yV y_SF_parse prog_1_method_4_code 2 (some .int) 0 := ⟨z_m 707 rfl rfl, z_m 708 rfl rfl, z_m 120 rfl rfl, z_m 709 rfl rfl, nc1_SF, nc2_SF, by decide +kernel⟩
def y_SF_where : MethodName := ⟨"StreamForge", "where", "()I"⟩
set_option maxRecDepth 100000 in
theorem yi_SF_where : z_yV y_SF_where prog_1_method_5_code 1 (some .int) 0 := ⟨z_m 581 rfl rfl, z_m 582 rfl rfl, z_m 120 rfl rfl, z_m 583 rfl rfl, nc1_SF, nc2_SF, by decide +kernel⟩
def y_SF_line : MethodName := ⟨"StreamForge", "line", "(JJ)I"⟩
set_option maxRecDepth 100000 in
theorem yi_SF_line : z_yV y_SF_line prog_1_method_6_code 6 (some .int) 2 := ⟨z_m 917 rfl rfl, z_m 918 rfl rfl, z_m 120 rfl rfl, z_m 919 rfl rfl, nc1_SF, nc2_SF, by decide +kernel⟩
def y_SF_more : MethodName := ⟨"StreamForge", "more", "(J)I"⟩
set_option maxRecDepth 100000 in
theorem yi_SF_more : z_yV y_SF_more prog_1_method_7_code 4 (some .int) 1 := ⟨z_m 924 rfl rfl, z_m 925 rfl rfl, z_m 120 rfl rfl, z_m 926 rfl rfl, nc1_SF, nc2_SF, by decide +kernel⟩
def y_SF_run : MethodName := ⟨"StreamForge", "run", "()I"⟩
set_option maxRecDepth 100000 in
theorem yi_SF_run : z_yV y_SF_run prog_1_method_8_code 1 (some .int) 0 := ⟨z_m 933 rfl rfl, z_m 934 rfl rfl, z_m 120 rfl rfl, z_m 935 rfl rfl, nc1_SF, nc2_SF, by decide +kernel⟩
def y_SF_out : MethodName := ⟨"StreamForge", "out", "(I)I"⟩
set_option maxRecDepth 100000 in
theorem yi_SF_out : z_yV y_SF_out prog_1_method_9_code 3 (some .int) 1 := ⟨z_m 1139 rfl rfl, z_m 1140 rfl rfl, z_m 120 rfl rfl, z_m 1141 rfl rfl, nc1_SF, nc2_SF, by decide +kernel⟩
def y_SF_ran : MethodName := ⟨"StreamForge", "ran", "(I)I"⟩
set_option maxRecDepth 100000 in
theorem yi_SF_ran : z_yV y_SF_ran prog_1_method_10_code 2 (some .int) 1 := ⟨z_m 1149 rfl rfl, z_m 1150 rfl rfl, z_m 120 rfl rfl, z_m 1151 rfl rfl, nc1_SF, nc2_SF, by decide +kernel⟩
def y_SF_match : MethodName := ⟨"StreamForge", "match", "(III)I"⟩
set_option maxRecDepth 100000 in
theorem yi_SF_match : z_yV y_SF_match prog_1_method_11_code 5 (some .int) 3 := ⟨z_m 1156 rfl rfl, z_m 1157 rfl rfl, z_m 120 rfl rfl, z_m 1158 rfl rfl, nc1_SF, nc2_SF, by decide +kernel⟩
def y_SF_count : MethodName := ⟨"StreamForge", "count", "(I)I"⟩
set_option maxRecDepth 100000 in
theorem yi_SF_count : z_yV y_SF_count prog_1_method_12_code 3 (some .int) 1 := ⟨z_m 1168 rfl rfl, z_m 1169 rfl rfl, z_m 120 rfl rfl, z_m 1170 rfl rfl, nc1_SF, nc2_SF, by decide +kernel⟩
def y_SF_byteOf : MethodName := ⟨"StreamForge", "byteOf", "(JI)I"⟩
set_option maxRecDepth 100000 in
theorem yi_SF_byteOf : z_yS y_SF_byteOf prog_1_method_13_code 3 (some .int) 2 := ⟨z_m 597 rfl rfl, z_m 120 rfl rfl, z_m 598 rfl rfl, nc1_SF, nc2_SF, by decide +kernel⟩
def y_SF_isText : MethodName := ⟨"StreamForge", "isText", "(JZ)Z"⟩
set_option maxRecDepth 100000 in
theorem yi_SF_isText : z_yS y_SF_isText prog_1_method_14_code 6 (some .boolean) 2 := ⟨z_m 594 rfl rfl, z_m 120 rfl rfl, z_m 595 rfl rfl, nc1_SF, nc2_SF, by decide +kernel⟩
def y_SF_textLength : MethodName := ⟨"StreamForge", "textLength", "(J)I"⟩
set_option maxRecDepth 100000 in
theorem yi_SF_textLength : z_yS y_SF_textLength prog_1_method_15_code 4 (some .int) 1 := ⟨z_m 664 rfl rfl, z_m 120 rfl rfl, z_m 665 rfl rfl, nc1_SF, nc2_SF, by decide +kernel⟩
def y_SF_addText : MethodName := ⟨"StreamForge", "addText", "(LStreamForge$Row;J)V"⟩
set_option maxRecDepth 100000 in
theorem yi_SF_addText : z_yS y_SF_addText prog_1_method_16_code 5 none 2 := ⟨z_m 686 rfl rfl, z_m 120 rfl rfl, z_m 687 rfl rfl, nc1_SF, nc2_SF, by decide +kernel⟩
def y_Mod_init : MethodName := ⟨"StreamForgeModel", "<init>", "()V"⟩
def y_Mod_thrown : MethodName := ⟨"StreamForgeModel", "thrown", "()I"⟩
set_option maxRecDepth 100000 in
theorem yi_Mod_thrown : z_yV y_Mod_thrown prog_14_method_2_code 1 (some .int) 0 := ⟨z_m 1411 rfl rfl, z_m 1412 rfl rfl, z_m 132 rfl rfl, z_m 1413 rfl rfl, nc1_Mod, nc2_Mod, by decide +kernel⟩
def y_Mod_in : MethodName := ⟨"StreamForgeModel", "in", "(III)Z"⟩
set_option maxRecDepth 100000 in
theorem yi_Mod_in : z_yS y_Mod_in prog_14_method_3_code 3 (some .boolean) 3 := ⟨z_m 1422 rfl rfl, z_m 132 rfl rfl, z_m 1423 rfl rfl, nc1_Mod, nc2_Mod, by decide +kernel⟩
def y_Mod_fail : MethodName := ⟨"StreamForgeModel", "fail", "(I)I"⟩
set_option maxRecDepth 100000 in
theorem yi_Mod_fail : z_yV y_Mod_fail prog_14_method_4_code 2 (some .int) 1 := ⟨z_m 1426 rfl rfl, z_m 67 rfl rfl, z_m 132 rfl rfl, z_m 1427 rfl rfl, nc1_Mod, nc2_Mod, by decide +kernel⟩
def y_Mod_measure : MethodName := ⟨"StreamForgeModel", "measure", "(JZ)I"⟩
set_option maxRecDepth 100000 in
theorem yi_Mod_measure : z_yS y_Mod_measure prog_14_method_5_code 6 (some .int) 2 := ⟨z_m 1419 rfl rfl, z_m 132 rfl rfl, z_m 1420 rfl rfl, nc1_Mod, nc2_Mod, by decide +kernel⟩
def y_Mod_script : MethodName := ⟨"StreamForgeModel", "script", "(J)I"⟩
set_option maxRecDepth 100000 in
theorem yi_Mod_script : z_yV y_Mod_script prog_14_method_6_code 6 (some .int) 1 := ⟨z_m 1415 rfl rfl, z_m 1416 rfl rfl, z_m 132 rfl rfl, z_m 1417 rfl rfl, nc1_Mod, nc2_Mod, by decide +kernel⟩
def y_Mod_clear : MethodName := ⟨"StreamForgeModel", "clear", "(I)I"⟩
set_option maxRecDepth 100000 in
theorem yi_Mod_clear : z_yV y_Mod_clear prog_14_method_7_code 3 (some .int) 1 := ⟨z_m 1429 rfl rfl, z_m 1430 rfl rfl, z_m 132 rfl rfl, z_m 1431 rfl rfl, nc1_Mod, nc2_Mod, by decide +kernel⟩
def y_Mod_addTo : MethodName := ⟨"StreamForgeModel", "addTo", "(IJ)V"⟩
set_option maxRecDepth 100000 in
theorem yi_Mod_addTo : z_yV y_Mod_addTo prog_14_method_8_code 6 none 2 := ⟨z_m 1438 rfl rfl, z_m 68 rfl rfl, z_m 132 rfl rfl, z_m 1439 rfl rfl, nc1_Mod, nc2_Mod, by decide +kernel⟩
def y_Mod_line : MethodName := ⟨"StreamForgeModel", "line", "(JJ)I"⟩
set_option maxRecDepth 100000 in
theorem yi_Mod_line : z_yV y_Mod_line prog_14_method_9_code 5 (some .int) 2 := ⟨z_m 1433 rfl rfl, z_m 1434 rfl rfl, z_m 132 rfl rfl, z_m 1435 rfl rfl, nc1_Mod, nc2_Mod, by decide +kernel⟩
def y_Mod_more : MethodName := ⟨"StreamForgeModel", "more", "(J)I"⟩
set_option maxRecDepth 100000 in
theorem yi_Mod_more : z_yV y_Mod_more prog_14_method_10_code 4 (some .int) 1 := ⟨z_m 1441 rfl rfl, z_m 1442 rfl rfl, z_m 132 rfl rfl, z_m 1443 rfl rfl, nc1_Mod, nc2_Mod, by decide +kernel⟩
def y_Mod_here : MethodName := ⟨"StreamForgeModel", "here", "()I"⟩
set_option maxRecDepth 100000 in
theorem yi_Mod_here : z_yV y_Mod_here prog_14_method_11_code 1 (some .int) 0 := ⟨z_m 1462 rfl rfl, z_m 72 rfl rfl, z_m 132 rfl rfl, z_m 1463 rfl rfl, nc1_Mod, nc2_Mod, by decide +kernel⟩
def y_Mod_behind : MethodName := ⟨"StreamForgeModel", "behind", "()I"⟩
set_option maxRecDepth 100000 in
theorem yi_Mod_behind : z_yV y_Mod_behind prog_14_method_12_code 1 (some .int) 0 := ⟨z_m 1470 rfl rfl, z_m 74 rfl rfl, z_m 132 rfl rfl, z_m 1471 rfl rfl, nc1_Mod, nc2_Mod, by decide +kernel⟩
def y_Mod_wrong : MethodName := ⟨"StreamForgeModel", "wrong", "(I)V"⟩
set_option maxRecDepth 100000 in
theorem yi_Mod_wrong : z_yV y_Mod_wrong prog_14_method_13_code 2 none 1 := ⟨z_m 1450 rfl rfl, z_m 69 rfl rfl, z_m 132 rfl rfl, z_m 1451 rfl rfl, nc1_Mod, nc2_Mod, by decide +kernel⟩
def y_Mod_expect : MethodName := ⟨"StreamForgeModel", "expect", "(I)V"⟩
set_option maxRecDepth 100000 in
theorem yi_Mod_expect : z_yV y_Mod_expect prog_14_method_14_code 2 none 1 := ⟨z_m 1519 rfl rfl, z_m 86 rfl rfl, z_m 132 rfl rfl, z_m 1520 rfl rfl, nc1_Mod, nc2_Mod, by decide +kernel⟩
def y_Mod_keep : MethodName := ⟨"StreamForgeModel", "keep", "(I)V"⟩
set_option maxRecDepth 100000 in
theorem yi_Mod_keep : z_yV y_Mod_keep prog_14_method_15_code 2 none 1 := ⟨z_m 1531 rfl rfl, z_m 89 rfl rfl, z_m 132 rfl rfl, z_m 1532 rfl rfl, nc1_Mod, nc2_Mod, by decide +kernel⟩
def y_Mod_stored : MethodName := ⟨"StreamForgeModel", "stored", "()I"⟩
set_option maxRecDepth 100000 in
theorem yi_Mod_stored : z_yV y_Mod_stored prog_14_method_16_code 1 (some .int) 0 := ⟨z_m 1527 rfl rfl, z_m 88 rfl rfl, z_m 132 rfl rfl, z_m 1528 rfl rfl, nc1_Mod, nc2_Mod, by decide +kernel⟩
def y_Mod_addItem : MethodName := ⟨"StreamForgeModel", "addItem", "(III)V"⟩
set_option maxRecDepth 100000 in
theorem yi_Mod_addItem : z_yV y_Mod_addItem prog_14_method_17_code 6 none 3 := ⟨z_m 1478 rfl rfl, z_m 76 rfl rfl, z_m 132 rfl rfl, z_m 1479 rfl rfl, nc1_Mod, nc2_Mod, by decide +kernel⟩
def y_Mod_escaped : MethodName := ⟨"StreamForgeModel", "escaped", "(I)V"⟩
set_option maxRecDepth 100000 in
theorem yi_Mod_escaped : z_yV y_Mod_escaped prog_14_method_18_code 3 none 1 := ⟨z_m 1474 rfl rfl, z_m 75 rfl rfl, z_m 132 rfl rfl, z_m 1475 rfl rfl, nc1_Mod, nc2_Mod, by decide +kernel⟩
def y_Mod_put : MethodName := ⟨"StreamForgeModel", "put", "(III)V"⟩
set_option maxRecDepth 100000 in
theorem yi_Mod_put : z_yV y_Mod_put prog_14_method_19_code 5 none 3 := ⟨z_m 1490 rfl rfl, z_m 79 rfl rfl, z_m 132 rfl rfl, z_m 1491 rfl rfl, nc1_Mod, nc2_Mod, by decide +kernel⟩
def y_Mod_isMember : MethodName := ⟨"StreamForgeModel", "isMember", "()Z"⟩
set_option maxRecDepth 100000 in
theorem yi_Mod_isMember : z_yV y_Mod_isMember prog_14_method_20_code 2 (some .boolean) 0 := ⟨z_m 1486 rfl rfl, z_m 78 rfl rfl, z_m 132 rfl rfl, z_m 1487 rfl rfl, nc1_Mod, nc2_Mod, by decide +kernel⟩
def y_Mod_set : MethodName := ⟨"StreamForgeModel", "set", "(I)V"⟩
set_option maxRecDepth 100000 in
theorem yi_Mod_set : z_yV y_Mod_set prog_14_method_21_code 8 none 1 := ⟨z_m 1482 rfl rfl, z_m 77 rfl rfl, z_m 132 rfl rfl, z_m 1483 rfl rfl, nc1_Mod, nc2_Mod, by decide +kernel⟩
def y_Mod_star : MethodName := ⟨"StreamForgeModel", "star", "()V"⟩
set_option maxRecDepth 100000 in
theorem yi_Mod_star : z_yV y_Mod_star prog_14_method_22_code 1 none 0 := ⟨z_m 1495 rfl rfl, z_m 80 rfl rfl, z_m 132 rfl rfl, z_m 1496 rfl rfl, nc1_Mod, nc2_Mod, by decide +kernel⟩
def y_Mod_readPattern : MethodName := ⟨"StreamForgeModel", "readPattern", "()I"⟩
set_option maxRecDepth 100000 in
theorem yi_Mod_readPattern : z_yV y_Mod_readPattern prog_14_method_23_code 3 (some .int) 0 := ⟨z_m 1466 rfl rfl, z_m 73 rfl rfl, z_m 132 rfl rfl, z_m 1467 rfl rfl, nc1_Mod, nc2_Mod, by decide +kernel⟩
def y_Mod_address : MethodName := ⟨"StreamForgeModel", "address", "()I"⟩
set_option maxRecDepth 100000 in
theorem yi_Mod_address : z_yV y_Mod_address prog_14_method_24_code 2 (some .int) 0 := ⟨z_m 1458 rfl rfl, z_m 71 rfl rfl, z_m 132 rfl rfl, z_m 1459 rfl rfl, nc1_Mod, nc2_Mod, by decide +kernel⟩
def y_Mod_blanks : MethodName := ⟨"StreamForgeModel", "blanks", "()V"⟩
set_option maxRecDepth 100000 in
theorem yi_Mod_blanks : z_yV y_Mod_blanks prog_14_method_25_code 1 none 0 := ⟨z_m 1499 rfl rfl, z_m 81 rfl rfl, z_m 132 rfl rfl, z_m 1500 rfl rfl, nc1_Mod, nc2_Mod, by decide +kernel⟩
def y_Mod_replacement : MethodName := ⟨"StreamForgeModel", "replacement", "(I)V"⟩
set_option maxRecDepth 100000 in
theorem yi_Mod_replacement : z_yV y_Mod_replacement prog_14_method_26_code 4 none 1 := ⟨z_m 1523 rfl rfl, z_m 87 rfl rfl, z_m 132 rfl rfl, z_m 1524 rfl rfl, nc1_Mod, nc2_Mod, by decide +kernel⟩
def y_Mod_substitute : MethodName := ⟨"StreamForgeModel", "substitute", "(I)V"⟩
set_option maxRecDepth 100000 in
theorem yi_Mod_substitute : z_yV y_Mod_substitute prog_14_method_27_code 4 none 1 := ⟨z_m 1515 rfl rfl, z_m 85 rfl rfl, z_m 132 rfl rfl, z_m 1516 rfl rfl, nc1_Mod, nc2_Mod, by decide +kernel⟩
def y_Mod_exchange : MethodName := ⟨"StreamForgeModel", "exchange", "(I)V"⟩
set_option maxRecDepth 100000 in
theorem yi_Mod_exchange : z_yV y_Mod_exchange prog_14_method_28_code 5 none 1 := ⟨z_m 1535 rfl rfl, z_m 90 rfl rfl, z_m 132 rfl rfl, z_m 1536 rfl rfl, nc1_Mod, nc2_Mod, by decide +kernel⟩
def y_Mod_readText : MethodName := ⟨"StreamForgeModel", "readText", "(I)V"⟩
set_option maxRecDepth 100000 in
theorem yi_Mod_readText : z_yV y_Mod_readText prog_14_method_29_code 2 none 1 := ⟨z_m 1539 rfl rfl, z_m 91 rfl rfl, z_m 132 rfl rfl, z_m 1540 rfl rfl, nc1_Mod, nc2_Mod, by decide +kernel⟩
def y_Mod_isPlain : MethodName := ⟨"StreamForgeModel", "isPlain", "(I)Z"⟩
set_option maxRecDepth 100000 in
theorem yi_Mod_isPlain : z_yS y_Mod_isPlain prog_14_method_30_code 1 (some .boolean) 1 := ⟨z_m 1542 rfl rfl, z_m 132 rfl rfl, z_m 1543 rfl rfl, nc1_Mod, nc2_Mod, by decide +kernel⟩
def y_Mod_closed : MethodName := ⟨"StreamForgeModel", "closed", "()V"⟩
set_option maxRecDepth 100000 in
theorem yi_Mod_closed : z_yV y_Mod_closed prog_14_method_31_code 2 none 0 := ⟨z_m 1507 rfl rfl, z_m 83 rfl rfl, z_m 132 rfl rfl, z_m 1508 rfl rfl, nc1_Mod, nc2_Mod, by decide +kernel⟩
def y_Mod_label : MethodName := ⟨"StreamForgeModel", "label", "(IZ)V"⟩
set_option maxRecDepth 100000 in
theorem yi_Mod_label : z_yV y_Mod_label prog_14_method_32_code 4 none 2 := ⟨z_m 1503 rfl rfl, z_m 82 rfl rfl, z_m 132 rfl rfl, z_m 1504 rfl rfl, nc1_Mod, nc2_Mod, by decide +kernel⟩
def y_Mod_branch : MethodName := ⟨"StreamForgeModel", "branch", "(I)V"⟩
set_option maxRecDepth 100000 in
theorem yi_Mod_branch : z_yV y_Mod_branch prog_14_method_33_code 2 none 1 := ⟨z_m 1511 rfl rfl, z_m 84 rfl rfl, z_m 132 rfl rfl, z_m 1512 rfl rfl, nc1_Mod, nc2_Mod, by decide +kernel⟩
def y_Mod_command : MethodName := ⟨"StreamForgeModel", "command", "()V"⟩
set_option maxRecDepth 100000 in
theorem yi_Mod_command : z_yV y_Mod_command prog_14_method_34_code 3 none 0 := ⟨z_m 1454 rfl rfl, z_m 70 rfl rfl, z_m 132 rfl rfl, z_m 1455 rfl rfl, nc1_Mod, nc2_Mod, by decide +kernel⟩
def y_Mod_goals : MethodName := ⟨"StreamForgeModel", "goals", "()V"⟩
set_option maxRecDepth 100000 in
theorem yi_Mod_goals : z_yV y_Mod_goals prog_14_method_35_code 3 none 0 := ⟨z_m 1546 rfl rfl, z_m 92 rfl rfl, z_m 132 rfl rfl, z_m 1547 rfl rfl, nc1_Mod, nc2_Mod, by decide +kernel⟩
def y_Mod_parse : MethodName := ⟨"StreamForgeModel", "parse", "()I"⟩
set_option maxRecDepth 100000 in
theorem yi_Mod_parse : z_yV y_Mod_parse prog_14_method_36_code 2 (some .int) 0 := ⟨z_m 1445 rfl rfl, z_m 1446 rfl rfl, z_m 132 rfl rfl, z_m 1447 rfl rfl, nc1_Mod, nc2_Mod, by decide +kernel⟩
def y_Mod_where : MethodName := ⟨"StreamForgeModel", "where", "()I"⟩
set_option maxRecDepth 100000 in
theorem yi_Mod_where : z_yV y_Mod_where prog_14_method_37_code 1 (some .int) 0 := ⟨z_m 1549 rfl rfl, z_m 1550 rfl rfl, z_m 132 rfl rfl, z_m 1551 rfl rfl, nc1_Mod, nc2_Mod, by decide +kernel⟩
def y_Mod_fits : MethodName := ⟨"StreamForgeModel", "fits", "(II)Z"⟩
set_option maxRecDepth 100000 in
theorem yi_Mod_fits : z_yV y_Mod_fits prog_14_method_38_code 3 (some .boolean) 2 := ⟨z_m 1574 rfl rfl, z_m 97 rfl rfl, z_m 132 rfl rfl, z_m 1575 rfl rfl, nc1_Mod, nc2_Mod, by decide +kernel⟩
def y_Mod_way : MethodName := ⟨"StreamForgeModel", "way", "(IIII)I"⟩
set_option maxRecDepth 100000 in
theorem yi_Mod_way : z_yV y_Mod_way prog_14_method_39_code 13 (some .int) 4 := ⟨z_m 1570 rfl rfl, z_m 96 rfl rfl, z_m 132 rfl rfl, z_m 1571 rfl rfl, nc1_Mod, nc2_Mod, by decide +kernel⟩
def y_Mod_starsOf : MethodName := ⟨"StreamForgeModel", "starsOf", "(I)I"⟩
set_option maxRecDepth 100000 in
theorem yi_Mod_starsOf : z_yV y_Mod_starsOf prog_14_method_40_code 4 (some .int) 1 := ⟨z_m 1566 rfl rfl, z_m 95 rfl rfl, z_m 132 rfl rfl, z_m 1567 rfl rfl, nc1_Mod, nc2_Mod, by decide +kernel⟩
def y_Mod_find : MethodName := ⟨"StreamForgeModel", "find", "(II)Z"⟩
set_option maxRecDepth 100000 in
theorem yi_Mod_find : z_yV y_Mod_find prog_14_method_41_code 13 (some .boolean) 2 := ⟨z_m 1562 rfl rfl, z_m 94 rfl rfl, z_m 132 rfl rfl, z_m 1563 rfl rfl, nc1_Mod, nc2_Mod, by decide +kernel⟩
def y_Mod_takeSpace : MethodName := ⟨"StreamForgeModel", "takeSpace", "()V"⟩
set_option maxRecDepth 100000 in
theorem yi_Mod_takeSpace : z_yV y_Mod_takeSpace prog_14_method_42_code 2 none 0 := ⟨z_m 1614 rfl rfl, z_m 106 rfl rfl, z_m 132 rfl rfl, z_m 1615 rfl rfl, nc1_Mod, nc2_Mod, by decide +kernel⟩
def y_Mod_takeLine : MethodName := ⟨"StreamForgeModel", "takeLine", "(I)V"⟩
set_option maxRecDepth 100000 in
theorem yi_Mod_takeLine : z_yV y_Mod_takeLine prog_14_method_43_code 3 none 1 := ⟨z_m 1558 rfl rfl, z_m 93 rfl rfl, z_m 132 rfl rfl, z_m 1559 rfl rfl, nc1_Mod, nc2_Mod, by decide +kernel⟩
def y_Mod_match : MethodName := ⟨"StreamForgeModel", "match", "(III)I"⟩
set_option maxRecDepth 100000 in
theorem yi_Mod_match : z_yV y_Mod_match prog_14_method_44_code 6 (some .int) 3 := ⟨z_m 1553 rfl rfl, z_m 1554 rfl rfl, z_m 132 rfl rfl, z_m 1555 rfl rfl, nc1_Mod, nc2_Mod, by decide +kernel⟩
def y_Mod_full : MethodName := ⟨"StreamForgeModel", "full", "()Z"⟩
set_option maxRecDepth 100000 in
theorem yi_Mod_full : z_yV y_Mod_full prog_14_method_45_code 1 (some .boolean) 0 := ⟨z_m 1598 rfl rfl, z_m 102 rfl rfl, z_m 132 rfl rfl, z_m 1599 rfl rfl, nc1_Mod, nc2_Mod, by decide +kernel⟩
def y_Mod_tell : MethodName := ⟨"StreamForgeModel", "tell", "()Z"⟩
set_option maxRecDepth 100000 in
theorem yi_Mod_tell : z_yV y_Mod_tell prog_14_method_46_code 2 (some .boolean) 0 := ⟨z_m 1594 rfl rfl, z_m 101 rfl rfl, z_m 132 rfl rfl, z_m 1595 rfl rfl, nc1_Mod, nc2_Mod, by decide +kernel⟩
def y_Mod_tellSpace : MethodName := ⟨"StreamForgeModel", "tellSpace", "(Z)Z"⟩
set_option maxRecDepth 100000 in
theorem yi_Mod_tellSpace : z_yV y_Mod_tellSpace prog_14_method_47_code 4 (some .boolean) 1 := ⟨z_m 1590 rfl rfl, z_m 100 rfl rfl, z_m 132 rfl rfl, z_m 1591 rfl rfl, nc1_Mod, nc2_Mod, by decide +kernel⟩
def y_Mod_tellText : MethodName := ⟨"StreamForgeModel", "tellText", "(I)Z"⟩
set_option maxRecDepth 100000 in
theorem yi_Mod_tellText : z_yV y_Mod_tellText prog_14_method_48_code 3 (some .boolean) 1 := ⟨z_m 1646 rfl rfl, z_m 114 rfl rfl, z_m 132 rfl rfl, z_m 1647 rfl rfl, nc1_Mod, nc2_Mod, by decide +kernel⟩
def y_Mod_tellAppended : MethodName := ⟨"StreamForgeModel", "tellAppended", "()Z"⟩
set_option maxRecDepth 100000 in
theorem yi_Mod_tellAppended : z_yV y_Mod_tellAppended prog_14_method_49_code 3 (some .boolean) 0 := ⟨z_m 1602 rfl rfl, z_m 103 rfl rfl, z_m 132 rfl rfl, z_m 1603 rfl rfl, nc1_Mod, nc2_Mod, by decide +kernel⟩
def y_Mod_tellNumber : MethodName := ⟨"StreamForgeModel", "tellNumber", "()Z"⟩
set_option maxRecDepth 100000 in
theorem yi_Mod_tellNumber : z_yV y_Mod_tellNumber prog_14_method_50_code 1 (some .boolean) 0 := ⟨z_m 1658 rfl rfl, z_m 117 rfl rfl, z_m 132 rfl rfl, z_m 1659 rfl rfl, nc1_Mod, nc2_Mod, by decide +kernel⟩
def y_Mod_fitsAddress : MethodName := ⟨"StreamForgeModel", "fitsAddress", "(II)Z"⟩
set_option maxRecDepth 100000 in
theorem yi_Mod_fitsAddress : z_yV y_Mod_fitsAddress prog_14_method_51_code 3 (some .boolean) 2 := ⟨z_m 1610 rfl rfl, z_m 105 rfl rfl, z_m 132 rfl rfl, z_m 1611 rfl rfl, nc1_Mod, nc2_Mod, by decide +kernel⟩
def y_Mod_isDone : MethodName := ⟨"StreamForgeModel", "isDone", "(I)Z"⟩
set_option maxRecDepth 100000 in
theorem yi_Mod_isDone : z_yV y_Mod_isDone prog_14_method_52_code 4 (some .boolean) 1 := ⟨z_m 1606 rfl rfl, z_m 104 rfl rfl, z_m 132 rfl rfl, z_m 1607 rfl rfl, nc1_Mod, nc2_Mod, by decide +kernel⟩
def y_Mod_readLine : MethodName := ⟨"StreamForgeModel", "readLine", "()V"⟩
set_option maxRecDepth 100000 in
theorem yi_Mod_readLine : z_yV y_Mod_readLine prog_14_method_53_code 2 none 0 := ⟨z_m 1582 rfl rfl, z_m 98 rfl rfl, z_m 132 rfl rfl, z_m 1583 rfl rfl, nc1_Mod, nc2_Mod, by decide +kernel⟩
def y_Mod_add : MethodName := ⟨"StreamForgeModel", "add", "(I)V"⟩
set_option maxRecDepth 100000 in
theorem yi_Mod_add : z_yV y_Mod_add prog_14_method_54_code 2 none 1 := ⟨z_m 1630 rfl rfl, z_m 110 rfl rfl, z_m 132 rfl rfl, z_m 1631 rfl rfl, nc1_Mod, nc2_Mod, by decide +kernel⟩
def y_Mod_copyOf : MethodName := ⟨"StreamForgeModel", "copyOf", "(II)V"⟩
set_option maxRecDepth 100000 in
theorem yi_Mod_copyOf : z_yV y_Mod_copyOf prog_14_method_55_code 4 none 2 := ⟨z_m 1626 rfl rfl, z_m 109 rfl rfl, z_m 132 rfl rfl, z_m 1627 rfl rfl, nc1_Mod, nc2_Mod, by decide +kernel⟩
def y_Mod_addReplacement : MethodName := ⟨"StreamForgeModel", "addReplacement", "(I)V"⟩
set_option maxRecDepth 100000 in
theorem yi_Mod_addReplacement : z_yV y_Mod_addReplacement prog_14_method_56_code 4 none 1 := ⟨z_m 1634 rfl rfl, z_m 111 rfl rfl, z_m 132 rfl rfl, z_m 1635 rfl rfl, nc1_Mod, nc2_Mod, by decide +kernel⟩
def y_Mod_substituted : MethodName := ⟨"StreamForgeModel", "substituted", "(I)Z"⟩
set_option maxRecDepth 100000 in
theorem yi_Mod_substituted : z_yV y_Mod_substituted prog_14_method_57_code 11 (some .boolean) 1 := ⟨z_m 1622 rfl rfl, z_m 108 rfl rfl, z_m 132 rfl rfl, z_m 1623 rfl rfl, nc1_Mod, nc2_Mod, by decide +kernel⟩
def y_Mod_exchanged : MethodName := ⟨"StreamForgeModel", "exchanged", "(I)V"⟩
set_option maxRecDepth 100000 in
theorem yi_Mod_exchanged : z_yV y_Mod_exchanged prog_14_method_58_code 6 none 1 := ⟨z_m 1638 rfl rfl, z_m 112 rfl rfl, z_m 132 rfl rfl, z_m 1639 rfl rfl, nc1_Mod, nc2_Mod, by decide +kernel⟩
def y_Mod_append : MethodName := ⟨"StreamForgeModel", "append", "(I)Z"⟩
set_option maxRecDepth 100000 in
theorem yi_Mod_append : z_yV y_Mod_append prog_14_method_59_code 4 (some .boolean) 1 := ⟨z_m 1642 rfl rfl, z_m 113 rfl rfl, z_m 132 rfl rfl, z_m 1643 rfl rfl, nc1_Mod, nc2_Mod, by decide +kernel⟩
def y_Mod_holds : MethodName := ⟨"StreamForgeModel", "holds", "(I)Z"⟩
set_option maxRecDepth 100000 in
theorem yi_Mod_holds : z_yV y_Mod_holds prog_14_method_60_code 4 (some .boolean) 1 := ⟨z_m 1662 rfl rfl, z_m 118 rfl rfl, z_m 132 rfl rfl, z_m 1663 rfl rfl, nc1_Mod, nc2_Mod, by decide +kernel⟩
def y_Mod_endCycle : MethodName := ⟨"StreamForgeModel", "endCycle", "(Z)I"⟩
set_option maxRecDepth 100000 in
theorem yi_Mod_endCycle : z_yV y_Mod_endCycle prog_14_method_61_code 3 (some .int) 1 := ⟨z_m 1586 rfl rfl, z_m 99 rfl rfl, z_m 132 rfl rfl, z_m 1587 rfl rfl, nc1_Mod, nc2_Mod, by decide +kernel⟩
def y_Mod_nextLine : MethodName := ⟨"StreamForgeModel", "nextLine", "(II)I"⟩
set_option maxRecDepth 100000 in
theorem yi_Mod_nextLine : z_yV y_Mod_nextLine prog_14_method_62_code 6 (some .int) 2 := ⟨z_m 1654 rfl rfl, z_m 116 rfl rfl, z_m 132 rfl rfl, z_m 1655 rfl rfl, nc1_Mod, nc2_Mod, by decide +kernel⟩
def y_Mod_cut : MethodName := ⟨"StreamForgeModel", "cut", "()I"⟩
set_option maxRecDepth 100000 in
theorem yi_Mod_cut : z_yV y_Mod_cut prog_14_method_63_code 4 (some .int) 0 := ⟨z_m 1650 rfl rfl, z_m 115 rfl rfl, z_m 132 rfl rfl, z_m 1651 rfl rfl, nc1_Mod, nc2_Mod, by decide +kernel⟩
def y_Mod_perform : MethodName := ⟨"StreamForgeModel", "perform", "(II)I"⟩
set_option maxRecDepth 100000 in
theorem yi_Mod_perform : z_yV y_Mod_perform prog_14_method_64_code 4 (some .int) 2 := ⟨z_m 1618 rfl rfl, z_m 107 rfl rfl, z_m 132 rfl rfl, z_m 1619 rfl rfl, nc1_Mod, nc2_Mod, by decide +kernel⟩
def y_Mod_run : MethodName := ⟨"StreamForgeModel", "run", "()I"⟩
set_option maxRecDepth 100000 in
theorem yi_Mod_run : z_yV y_Mod_run prog_14_method_65_code 4 (some .int) 0 := ⟨z_m 1577 rfl rfl, z_m 1578 rfl rfl, z_m 132 rfl rfl, z_m 1579 rfl rfl, nc1_Mod, nc2_Mod, by decide +kernel⟩
def y_Mod_out : MethodName := ⟨"StreamForgeModel", "out", "(I)I"⟩
set_option maxRecDepth 100000 in
theorem yi_Mod_out : z_yV y_Mod_out prog_14_method_66_code 2 (some .int) 1 := ⟨z_m 1665 rfl rfl, z_m 1666 rfl rfl, z_m 132 rfl rfl, z_m 1667 rfl rfl, nc1_Mod, nc2_Mod, by decide +kernel⟩
def y_Mod_ran : MethodName := ⟨"StreamForgeModel", "ran", "(I)I"⟩
set_option maxRecDepth 100000 in
theorem yi_Mod_ran : z_yV y_Mod_ran prog_14_method_67_code 2 (some .int) 1 := ⟨z_m 1669 rfl rfl, z_m 1670 rfl rfl, z_m 132 rfl rfl, z_m 1671 rfl rfl, nc1_Mod, nc2_Mod, by decide +kernel⟩
def y_Mod_count : MethodName := ⟨"StreamForgeModel", "count", "(I)I"⟩
set_option maxRecDepth 100000 in
theorem yi_Mod_count : z_yV y_Mod_count prog_14_method_68_code 2 (some .int) 1 := ⟨z_m 1673 rfl rfl, z_m 1674 rfl rfl, z_m 132 rfl rfl, z_m 1675 rfl rfl, nc1_Mod, nc2_Mod, by decide +kernel⟩
def y_Addr_init : MethodName := ⟨"StreamForge$Address", "<init>", "()V"⟩
def y_Cmd_init : MethodName := ⟨"StreamForge$Command", "<init>", "()V"⟩
def y_Cmd_reset : MethodName := ⟨"StreamForge$Command", "reset", "()V"⟩
set_option maxRecDepth 100000 in
theorem yi_Cmd_reset : z_yV y_Cmd_reset prog_3_method_2_code 1 none 0 := ⟨z_m 740 rfl rfl, z_m 741 rfl rfl, z_m 129 rfl rfl, z_m 742 rfl rfl, nc1_Cmd, nc2_Cmd, by decide +kernel⟩
def y_Cmd_replaces : MethodName := ⟨"StreamForge$Command", "replaces", "(I)Z"⟩
set_option maxRecDepth 100000 in
theorem yi_Cmd_replaces : z_yV y_Cmd_replaces prog_3_method_3_code 3 (some .boolean) 1 := ⟨z_m 1055 rfl rfl, z_m 1056 rfl rfl, z_m 129 rfl rfl, z_m 1057 rfl rfl, nc1_Cmd, nc2_Cmd, by decide +kernel⟩
def y_Cur_init : MethodName := ⟨"StreamForge$Cursor", "<init>", "()V"⟩
def y_Cur_look : MethodName := ⟨"StreamForge$Cursor", "look", "(I)I"⟩
set_option maxRecDepth 100000 in
theorem yi_Cur_look : z_yV y_Cur_look prog_4_method_2_code 3 (some .int) 1 := ⟨z_m 724 rfl rfl, z_m 725 rfl rfl, z_m 123 rfl rfl, z_m 726 rfl rfl, nc1_Cur, nc2_Cur, by decide +kernel⟩
def y_Cur_refuse : MethodName := ⟨"StreamForge$Cursor", "refuse", "(I)Z"⟩
set_option maxRecDepth 100000 in
theorem yi_Cur_refuse : z_yV y_Cur_refuse prog_4_method_3_code 2 (some .boolean) 1 := ⟨z_m 732 rfl rfl, z_m 733 rfl rfl, z_m 123 rfl rfl, z_m 734 rfl rfl, nc1_Cur, nc2_Cur, by decide +kernel⟩
def y_Cur_pass : MethodName := ⟨"StreamForge$Cursor", "pass", "(I)Z"⟩
set_option maxRecDepth 100000 in
theorem yi_Cur_pass : z_yV y_Cur_pass prog_4_method_4_code 2 (some .boolean) 1 := ⟨z_m 817 rfl rfl, z_m 818 rfl rfl, z_m 123 rfl rfl, z_m 819 rfl rfl, nc1_Cur, nc2_Cur, by decide +kernel⟩
def y_Ed_init : MethodName := ⟨"StreamForge$Editor", "<init>", "()V"⟩
def y_Ed_edit : MethodName := ⟨"StreamForge$Editor", "edit", "(LStreamForge$Program;[LStreamForge$Row;I)V"⟩
set_option maxRecDepth 100000 in
theorem yi_Ed_edit : z_yV y_Ed_edit prog_5_method_2_code 6 none 3 := ⟨z_m 937 rfl rfl, z_m 938 rfl rfl, z_m 125 rfl rfl, z_m 939 rfl rfl, nc1_Ed, nc2_Ed, by decide +kernel⟩
def y_Ed_begin : MethodName := ⟨"StreamForge$Editor", "begin", "()V"⟩
set_option maxRecDepth 100000 in
theorem yi_Ed_begin : z_yV y_Ed_begin prog_5_method_3_code 2 none 0 := ⟨z_m 942 rfl rfl, z_m 34 rfl rfl, z_m 125 rfl rfl, z_m 943 rfl rfl, nc1_Ed, nc2_Ed, by decide +kernel⟩
def y_Ed_beginLine : MethodName := ⟨"StreamForge$Editor", "beginLine", "()V"⟩
set_option maxRecDepth 100000 in
theorem yi_Ed_beginLine : z_yV y_Ed_beginLine prog_5_method_4_code 1 none 0 := ⟨z_m 947 rfl rfl, z_m 35 rfl rfl, z_m 125 rfl rfl, z_m 948 rfl rfl, nc1_Ed, nc2_Ed, by decide +kernel⟩
def y_Ed_beginCycle : MethodName := ⟨"StreamForge$Editor", "beginCycle", "()V"⟩
set_option maxRecDepth 100000 in
theorem yi_Ed_beginCycle : z_yV y_Ed_beginCycle prog_5_method_5_code 1 none 0 := ⟨z_m 956 rfl rfl, z_m 37 rfl rfl, z_m 125 rfl rfl, z_m 957 rfl rfl, nc1_Ed, nc2_Ed, by decide +kernel⟩
def y_Ed_readLine : MethodName := ⟨"StreamForge$Editor", "readLine", "()V"⟩
set_option maxRecDepth 100000 in
theorem yi_Ed_readLine : z_yV y_Ed_readLine prog_5_method_6_code 2 none 0 := ⟨z_m 951 rfl rfl, z_m 36 rfl rfl, z_m 125 rfl rfl, z_m 952 rfl rfl, nc1_Ed, nc2_Ed, by decide +kernel⟩
def y_Ed_endCycle : MethodName := ⟨"StreamForge$Editor", "endCycle", "(Z)V"⟩
set_option maxRecDepth 100000 in
theorem yi_Ed_endCycle : z_yV y_Ed_endCycle prog_5_method_7_code 2 none 1 := ⟨z_m 960 rfl rfl, z_m 38 rfl rfl, z_m 125 rfl rfl, z_m 961 rfl rfl, nc1_Ed, nc2_Ed, by decide +kernel⟩
def y_Ed_quit : MethodName := ⟨"StreamForge$Editor", "quit", "()V"⟩
set_option maxRecDepth 100000 in
theorem yi_Ed_quit : z_yV y_Ed_quit prog_5_method_8_code 1 none 0 := ⟨z_m 1113 rfl rfl, z_m 61 rfl rfl, z_m 125 rfl rfl, z_m 1114 rfl rfl, nc1_Ed, nc2_Ed, by decide +kernel⟩
def y_Ed_tell : MethodName := ⟨"StreamForge$Editor", "tell", "(LStreamForge$Row;II)V"⟩
set_option maxRecDepth 100000 in
theorem yi_Ed_tell : z_yV y_Ed_tell prog_5_method_9_code 4 none 3 := ⟨z_m 964 rfl rfl, z_m 39 rfl rfl, z_m 125 rfl rfl, z_m 965 rfl rfl, nc1_Ed, nc2_Ed, by decide +kernel⟩
def y_Ed_tellAppended : MethodName := ⟨"StreamForge$Editor", "tellAppended", "()V"⟩
set_option maxRecDepth 100000 in
theorem yi_Ed_tellAppended : z_yV y_Ed_tellAppended prog_5_method_10_code 3 none 0 := ⟨z_m 985 rfl rfl, z_m 40 rfl rfl, z_m 125 rfl rfl, z_m 986 rfl rfl, nc1_Ed, nc2_Ed, by decide +kernel⟩
def y_Ed_isDone : MethodName := ⟨"StreamForge$Editor", "isDone", "(LStreamForge$Command;)Z"⟩
set_option maxRecDepth 100000 in
theorem yi_Ed_isDone : z_yV y_Ed_isDone prog_5_method_11_code 3 (some .boolean) 1 := ⟨z_m 1004 rfl rfl, z_m 41 rfl rfl, z_m 125 rfl rfl, z_m 1005 rfl rfl, nc1_Ed, nc2_Ed, by decide +kernel⟩
def y_Ed_isReached : MethodName := ⟨"StreamForge$Editor", "isReached", "(LStreamForge$Address;)Z"⟩
set_option maxRecDepth 100000 in
theorem yi_Ed_isReached : z_yV y_Ed_isReached prog_5_method_12_code 2 (some .boolean) 1 := ⟨z_m 1040 rfl rfl, z_m 48 rfl rfl, z_m 125 rfl rfl, z_m 1041 rfl rfl, nc1_Ed, nc2_Ed, by decide +kernel⟩
def y_Ed_fits : MethodName := ⟨"StreamForge$Editor", "fits", "(LStreamForge$Address;)Z"⟩
set_option maxRecDepth 100000 in
theorem yi_Ed_fits : z_yV y_Ed_fits prog_5_method_13_code 2 (some .boolean) 1 := ⟨z_m 1008 rfl rfl, z_m 42 rfl rfl, z_m 125 rfl rfl, z_m 1009 rfl rfl, nc1_Ed, nc2_Ed, by decide +kernel⟩
def y_Ed_perform : MethodName := ⟨"StreamForge$Editor", "perform", "(LStreamForge$Command;)V"⟩
set_option maxRecDepth 100000 in
theorem yi_Ed_perform : z_yV y_Ed_perform prog_5_method_14_code 2 none 1 := ⟨z_m 1044 rfl rfl, z_m 49 rfl rfl, z_m 125 rfl rfl, z_m 1045 rfl rfl, nc1_Ed, nc2_Ed, by decide +kernel⟩
def y_Ed_branchIfReplaced : MethodName := ⟨"StreamForge$Editor", "branchIfReplaced", "(LStreamForge$Command;)V"⟩
set_option maxRecDepth 100000 in
theorem yi_Ed_branchIfReplaced : z_yV y_Ed_branchIfReplaced prog_5_method_15_code 2 none 1 := ⟨z_m 1048 rfl rfl, z_m 50 rfl rfl, z_m 125 rfl rfl, z_m 1049 rfl rfl, nc1_Ed, nc2_Ed, by decide +kernel⟩
def y_Ed_append : MethodName := ⟨"StreamForge$Editor", "append", "(LStreamForge$Command;)V"⟩
set_option maxRecDepth 100000 in
theorem yi_Ed_append : z_yV y_Ed_append prog_5_method_16_code 2 none 1 := ⟨z_m 1092 rfl rfl, z_m 57 rfl rfl, z_m 125 rfl rfl, z_m 1093 rfl rfl, nc1_Ed, nc2_Ed, by decide +kernel⟩
def y_Ed_change : MethodName := ⟨"StreamForge$Editor", "change", "(LStreamForge$Command;)V"⟩
set_option maxRecDepth 100000 in
theorem yi_Ed_change : z_yV y_Ed_change prog_5_method_17_code 2 none 1 := ⟨z_m 1096 rfl rfl, z_m 58 rfl rfl, z_m 125 rfl rfl, z_m 1097 rfl rfl, nc1_Ed, nc2_Ed, by decide +kernel⟩
def y_Ed_deleteFirst : MethodName := ⟨"StreamForge$Editor", "deleteFirst", "()V"⟩
set_option maxRecDepth 100000 in
theorem yi_Ed_deleteFirst : z_yV y_Ed_deleteFirst prog_5_method_18_code 2 none 0 := ⟨z_m 1100 rfl rfl, z_m 59 rfl rfl, z_m 125 rfl rfl, z_m 1101 rfl rfl, nc1_Ed, nc2_Ed, by decide +kernel⟩
def y_Ed_replaceByNext : MethodName := ⟨"StreamForge$Editor", "replaceByNext", "()V"⟩
set_option maxRecDepth 100000 in
theorem yi_Ed_replaceByNext : z_yV y_Ed_replaceByNext prog_5_method_19_code 1 none 0 := ⟨z_m 1109 rfl rfl, z_m 60 rfl rfl, z_m 125 rfl rfl, z_m 1110 rfl rfl, nc1_Ed, nc2_Ed, by decide +kernel⟩
def y_Ed_joinNext : MethodName := ⟨"StreamForge$Editor", "joinNext", "()V"⟩
set_option maxRecDepth 100000 in
theorem yi_Ed_joinNext : z_yV y_Ed_joinNext prog_5_method_20_code 1 none 0 := ⟨z_m 1117 rfl rfl, z_m 62 rfl rfl, z_m 125 rfl rfl, z_m 1118 rfl rfl, nc1_Ed, nc2_Ed, by decide +kernel⟩
def y_Ed_copy : MethodName := ⟨"StreamForge$Editor", "copy", "(LStreamForge$Row;LStreamForge$Row;)V"⟩
set_option maxRecDepth 100000 in
theorem yi_Ed_copy : z_yV y_Ed_copy prog_5_method_21_code 3 none 2 := ⟨z_m 1121 rfl rfl, z_m 63 rfl rfl, z_m 125 rfl rfl, z_m 1122 rfl rfl, nc1_Ed, nc2_Ed, by decide +kernel⟩
def y_Ed_join : MethodName := ⟨"StreamForge$Editor", "join", "(LStreamForge$Row;LStreamForge$Row;)V"⟩
set_option maxRecDepth 100000 in
theorem yi_Ed_join : z_yV y_Ed_join prog_5_method_22_code 3 none 2 := ⟨z_m 1125 rfl rfl, z_m 64 rfl rfl, z_m 125 rfl rfl, z_m 1126 rfl rfl, nc1_Ed, nc2_Ed, by decide +kernel⟩
def y_Ed_swap : MethodName := ⟨"StreamForge$Editor", "swap", "()V"⟩
set_option maxRecDepth 100000 in
theorem yi_Ed_swap : z_yV y_Ed_swap prog_5_method_23_code 2 none 0 := ⟨z_m 1129 rfl rfl, z_m 65 rfl rfl, z_m 125 rfl rfl, z_m 1130 rfl rfl, nc1_Ed, nc2_Ed, by decide +kernel⟩
def y_Ed_tellNumber : MethodName := ⟨"StreamForge$Editor", "tellNumber", "()V"⟩
set_option maxRecDepth 100000 in
theorem yi_Ed_tellNumber : z_yV y_Ed_tellNumber prog_5_method_24_code 1 none 0 := ⟨z_m 1133 rfl rfl, z_m 66 rfl rfl, z_m 125 rfl rfl, z_m 1134 rfl rfl, nc1_Ed, nc2_Ed, by decide +kernel⟩
def y_Ed_exchange : MethodName := ⟨"StreamForge$Editor", "exchange", "(LStreamForge$Command;)V"⟩
set_option maxRecDepth 100000 in
theorem yi_Ed_exchange : z_yV y_Ed_exchange prog_5_method_25_code 4 none 1 := ⟨z_m 1088 rfl rfl, z_m 56 rfl rfl, z_m 125 rfl rfl, z_m 1089 rfl rfl, nc1_Ed, nc2_Ed, by decide +kernel⟩
def y_Ed_substitute : MethodName := ⟨"StreamForge$Editor", "substitute", "(LStreamForge$Command;)V"⟩
set_option maxRecDepth 100000 in
theorem yi_Ed_substitute : z_yV y_Ed_substitute prog_5_method_26_code 10 none 1 := ⟨z_m 1052 rfl rfl, z_m 51 rfl rfl, z_m 125 rfl rfl, z_m 1053 rfl rfl, nc1_Ed, nc2_Ed, by decide +kernel⟩
def y_Ed_takeDraft : MethodName := ⟨"StreamForge$Editor", "takeDraft", "(LStreamForge$Command;I)V"⟩
set_option maxRecDepth 100000 in
theorem yi_Ed_takeDraft : z_yV y_Ed_takeDraft prog_5_method_27_code 4 none 2 := ⟨z_m 1084 rfl rfl, z_m 55 rfl rfl, z_m 125 rfl rfl, z_m 1085 rfl rfl, nc1_Ed, nc2_Ed, by decide +kernel⟩
def y_Ed_draftPart : MethodName := ⟨"StreamForge$Editor", "draftPart", "(II)V"⟩
set_option maxRecDepth 100000 in
theorem yi_Ed_draftPart : z_yV y_Ed_draftPart prog_5_method_28_code 3 none 2 := ⟨z_m 1063 rfl rfl, z_m 52 rfl rfl, z_m 125 rfl rfl, z_m 1064 rfl rfl, nc1_Ed, nc2_Ed, by decide +kernel⟩
def y_Ed_draftReplacement : MethodName := ⟨"StreamForge$Editor", "draftReplacement", "(LStreamForge$Command;)V"⟩
set_option maxRecDepth 100000 in
theorem yi_Ed_draftReplacement : z_yV y_Ed_draftReplacement prog_5_method_29_code 4 none 1 := ⟨z_m 1067 rfl rfl, z_m 53 rfl rfl, z_m 125 rfl rfl, z_m 1068 rfl rfl, nc1_Ed, nc2_Ed, by decide +kernel⟩
def y_Ed_draftCharacter : MethodName := ⟨"StreamForge$Editor", "draftCharacter", "(I)V"⟩
set_option maxRecDepth 100000 in
theorem yi_Ed_draftCharacter : z_yV y_Ed_draftCharacter prog_5_method_30_code 2 none 1 := ⟨z_m 1080 rfl rfl, z_m 54 rfl rfl, z_m 125 rfl rfl, z_m 1081 rfl rfl, nc1_Ed, nc2_Ed, by decide +kernel⟩
def y_It_init : MethodName := ⟨"StreamForge$Items", "<init>", "()V"⟩
def y_It_add : MethodName := ⟨"StreamForge$Items", "add", "(II)V"⟩
set_option maxRecDepth 100000 in
theorem yi_It_add : z_yV y_It_add prog_6_method_2_code 3 none 2 := ⟨z_m 781 rfl rfl, z_m 782 rfl rfl, z_m 128 rfl rfl, z_m 783 rfl rfl, nc1_It, nc2_It, by decide +kernel⟩
def y_It_allow : MethodName := ⟨"StreamForge$Items", "allow", "(II)V"⟩
set_option maxRecDepth 100000 in
theorem yi_It_allow : z_yV y_It_allow prog_6_method_3_code 6 none 2 := ⟨z_m 797 rfl rfl, z_m 798 rfl rfl, z_m 128 rfl rfl, z_m 799 rfl rfl, nc1_It, nc2_It, by decide +kernel⟩
def y_It_turn : MethodName := ⟨"StreamForge$Items", "turn", "()V"⟩
set_option maxRecDepth 100000 in
theorem yi_It_turn : z_yV y_It_turn prog_6_method_4_code 2 none 0 := ⟨z_m 812 rfl rfl, z_m 813 rfl rfl, z_m 128 rfl rfl, z_m 814 rfl rfl, nc1_It, nc2_It, by decide +kernel⟩
def y_It_takes : MethodName := ⟨"StreamForge$Items", "takes", "(II)Z"⟩
set_option maxRecDepth 100000 in
theorem yi_It_takes : z_yV y_It_takes prog_6_method_5_code 6 (some .boolean) 2 := ⟨z_m 1027 rfl rfl, z_m 1028 rfl rfl, z_m 128 rfl rfl, z_m 1029 rfl rfl, nc1_It, nc2_It, by decide +kernel⟩
def y_Ma_init : MethodName := ⟨"StreamForge$Matcher", "<init>", "()V"⟩
def y_Ma_find : MethodName := ⟨"StreamForge$Matcher", "find", "(LStreamForge$Items;LStreamForge$Pattern;LStreamForge$Row;I)Z"⟩
set_option maxRecDepth 100000 in
theorem yi_Ma_find : z_yV y_Ma_find prog_7_method_2_code 7 (some .boolean) 4 := ⟨z_m 1011 rfl rfl, z_m 1012 rfl rfl, z_m 126 rfl rfl, z_m 1013 rfl rfl, nc1_Ma, nc2_Ma, by decide +kernel⟩
def y_Ma_beginOf : MethodName := ⟨"StreamForge$Matcher", "beginOf", "(I)I"⟩
set_option maxRecDepth 100000 in
theorem yi_Ma_beginOf : z_yV y_Ma_beginOf prog_7_method_3_code 2 (some .int) 1 := ⟨z_m 1071 rfl rfl, z_m 1072 rfl rfl, z_m 126 rfl rfl, z_m 1073 rfl rfl, nc1_Ma, nc2_Ma, by decide +kernel⟩
def y_Ma_endOf : MethodName := ⟨"StreamForge$Matcher", "endOf", "(I)I"⟩
set_option maxRecDepth 100000 in
theorem yi_Ma_endOf : z_yV y_Ma_endOf prog_7_method_4_code 2 (some .int) 1 := ⟨z_m 1075 rfl rfl, z_m 1076 rfl rfl, z_m 126 rfl rfl, z_m 1077 rfl rfl, nc1_Ma, nc2_Ma, by decide +kernel⟩
def y_Ma_told : MethodName := ⟨"StreamForge$Matcher", "told", "(I)I"⟩
set_option maxRecDepth 100000 in
theorem yi_Ma_told : z_yV y_Ma_told prog_7_method_5_code 5 (some .int) 1 := ⟨z_m 1161 rfl rfl, z_m 1162 rfl rfl, z_m 126 rfl rfl, z_m 1163 rfl rfl, nc1_Ma, nc2_Ma, by decide +kernel⟩
def y_Ma_findLongest : MethodName := ⟨"StreamForge$Matcher", "findLongest", "(I)Z"⟩
set_option maxRecDepth 100000 in
theorem yi_Ma_findLongest : z_yV y_Ma_findLongest prog_7_method_6_code 6 (some .boolean) 1 := ⟨z_m 1016 rfl rfl, z_m 43 rfl rfl, z_m 126 rfl rfl, z_m 1017 rfl rfl, nc1_Ma, nc2_Ma, by decide +kernel⟩
def y_Ma_keepIfLongest : MethodName := ⟨"StreamForge$Matcher", "keepIfLongest", "(II)V"⟩
set_option maxRecDepth 100000 in
theorem yi_Ma_keepIfLongest : z_yV y_Ma_keepIfLongest prog_7_method_7_code 4 none 2 := ⟨z_m 1036 rfl rfl, z_m 47 rfl rfl, z_m 126 rfl rfl, z_m 1037 rfl rfl, nc1_Ma, nc2_Ma, by decide +kernel⟩
def y_Ma_repeats : MethodName := ⟨"StreamForge$Matcher", "repeats", "(II)Z"⟩
set_option maxRecDepth 100000 in
theorem yi_Ma_repeats : z_yV y_Ma_repeats prog_7_method_8_code 3 (some .boolean) 2 := ⟨z_m 1032 rfl rfl, z_m 46 rfl rfl, z_m 126 rfl rfl, z_m 1033 rfl rfl, nc1_Ma, nc2_Ma, by decide +kernel⟩
def y_Ma_walk : MethodName := ⟨"StreamForge$Matcher", "walk", "(III)I"⟩
set_option maxRecDepth 100000 in
theorem yi_Ma_walk : z_yV y_Ma_walk prog_7_method_9_code 7 (some .int) 3 := ⟨z_m 1020 rfl rfl, z_m 44 rfl rfl, z_m 126 rfl rfl, z_m 1021 rfl rfl, nc1_Ma, nc2_Ma, by decide +kernel⟩
def y_Ma_standsAgain : MethodName := ⟨"StreamForge$Matcher", "standsAgain", "(II)Z"⟩
set_option maxRecDepth 100000 in
theorem yi_Ma_standsAgain : z_yV y_Ma_standsAgain prog_7_method_10_code 6 (some .boolean) 2 := ⟨z_m 1024 rfl rfl, z_m 45 rfl rfl, z_m 126 rfl rfl, z_m 1025 rfl rfl, nc1_Ma, nc2_Ma, by decide +kernel⟩
def y_Pa_init : MethodName := ⟨"StreamForge$Parser", "<init>", "()V"⟩
def y_Pa_refusedAt : MethodName := ⟨"StreamForge$Parser", "refusedAt", "()I"⟩
set_option maxRecDepth 100000 in
theorem yi_Pa_refusedAt : z_yV y_Pa_refusedAt prog_8_method_2_code 1 (some .int) 0 := ⟨z_m 910 rfl rfl, z_m 911 rfl rfl, z_m 122 rfl rfl, z_m 912 rfl rfl, nc1_Pa, nc2_Pa, by decide +kernel⟩
def y_Pa_read : MethodName := ⟨"StreamForge$Parser", "read", "(LStreamForge$Row;LStreamForge$Program;)Z"⟩
set_option maxRecDepth 100000 in
theorem yi_Pa_read : z_yV y_Pa_read prog_8_method_3_code 5 (some .boolean) 2 := ⟨z_m 711 rfl rfl, z_m 712 rfl rfl, z_m 122 rfl rfl, z_m 713 rfl rfl, nc1_Pa, nc2_Pa, by decide +kernel⟩
def y_Pa_begin : MethodName := ⟨"StreamForge$Parser", "begin", "(LStreamForge$Row;LStreamForge$Program;)V"⟩
set_option maxRecDepth 100000 in
theorem yi_Pa_begin : z_yV y_Pa_begin prog_8_method_4_code 4 none 2 := ⟨z_m 716 rfl rfl, z_m 1 rfl rfl, z_m 122 rfl rfl, z_m 717 rfl rfl, nc1_Pa, nc2_Pa, by decide +kernel⟩
def y_Pa_closeBlock : MethodName := ⟨"StreamForge$Parser", "closeBlock", "()Z"⟩
set_option maxRecDepth 100000 in
theorem yi_Pa_closeBlock : z_yV y_Pa_closeBlock prog_8_method_5_code 1 (some .boolean) 0 := ⟨z_m 729 rfl rfl, z_m 2 rfl rfl, z_m 122 rfl rfl, z_m 730 rfl rfl, nc1_Pa, nc2_Pa, by decide +kernel⟩
def y_Pa_beginCommand : MethodName := ⟨"StreamForge$Parser", "beginCommand", "()Z"⟩
set_option maxRecDepth 100000 in
theorem yi_Pa_beginCommand : z_yV y_Pa_beginCommand prog_8_method_6_code 1 (some .boolean) 0 := ⟨z_m 737 rfl rfl, z_m 3 rfl rfl, z_m 122 rfl rfl, z_m 738 rfl rfl, nc1_Pa, nc2_Pa, by decide +kernel⟩
def y_Pa_readAddresses : MethodName := ⟨"StreamForge$Parser", "readAddresses", "()Z"⟩
set_option maxRecDepth 100000 in
theorem yi_Pa_readAddresses : z_yV y_Pa_readAddresses prog_8_method_7_code 1 (some .boolean) 0 := ⟨z_m 745 rfl rfl, z_m 4 rfl rfl, z_m 122 rfl rfl, z_m 746 rfl rfl, nc1_Pa, nc2_Pa, by decide +kernel⟩
def y_Pa_startsAddress : MethodName := ⟨"StreamForge$Parser", "startsAddress", "(I)Z"⟩
set_option maxRecDepth 100000 in
theorem yi_Pa_startsAddress : z_yS y_Pa_startsAddress prog_8_method_8_code 1 (some .boolean) 1 := ⟨z_m 748 rfl rfl, z_m 122 rfl rfl, z_m 749 rfl rfl, nc1_Pa, nc2_Pa, by decide +kernel⟩
def y_Pa_passBlanks : MethodName := ⟨"StreamForge$Parser", "passBlanks", "()V"⟩
set_option maxRecDepth 100000 in
theorem yi_Pa_passBlanks : z_yV y_Pa_passBlanks prog_8_method_9_code 2 none 0 := ⟨z_m 840 rfl rfl, z_m 20 rfl rfl, z_m 122 rfl rfl, z_m 841 rfl rfl, nc1_Pa, nc2_Pa, by decide +kernel⟩
def y_Pa_readAddress : MethodName := ⟨"StreamForge$Parser", "readAddress", "(LStreamForge$Address;)Z"⟩
set_option maxRecDepth 100000 in
theorem yi_Pa_readAddress : z_yV y_Pa_readAddress prog_8_method_10_code 4 (some .boolean) 1 := ⟨z_m 752 rfl rfl, z_m 5 rfl rfl, z_m 122 rfl rfl, z_m 753 rfl rfl, nc1_Pa, nc2_Pa, by decide +kernel⟩
def y_Pa_readAction : MethodName := ⟨"StreamForge$Parser", "readAction", "()Z"⟩
set_option maxRecDepth 100000 in
theorem yi_Pa_readAction : z_yV y_Pa_readAction prog_8_method_11_code 2 (some .boolean) 0 := ⟨z_m 844 rfl rfl, z_m 21 rfl rfl, z_m 122 rfl rfl, z_m 845 rfl rfl, nc1_Pa, nc2_Pa, by decide +kernel⟩
def y_Pa_endCommand : MethodName := ⟨"StreamForge$Parser", "endCommand", "()Z"⟩
set_option maxRecDepth 100000 in
theorem yi_Pa_endCommand : z_yV y_Pa_endCommand prog_8_method_12_code 2 (some .boolean) 0 := ⟨z_m 859 rfl rfl, z_m 24 rfl rfl, z_m 122 rfl rfl, z_m 860 rfl rfl, nc1_Pa, nc2_Pa, by decide +kernel⟩
def y_Pa_openBlock : MethodName := ⟨"StreamForge$Parser", "openBlock", "()Z"⟩
set_option maxRecDepth 100000 in
theorem yi_Pa_openBlock : z_yV y_Pa_openBlock prog_8_method_13_code 1 (some .boolean) 0 := ⟨z_m 848 rfl rfl, z_m 22 rfl rfl, z_m 122 rfl rfl, z_m 849 rfl rfl, nc1_Pa, nc2_Pa, by decide +kernel⟩
def y_Pa_placeLabel : MethodName := ⟨"StreamForge$Parser", "placeLabel", "()Z"⟩
set_option maxRecDepth 100000 in
theorem yi_Pa_placeLabel : z_yV y_Pa_placeLabel prog_8_method_14_code 2 (some .boolean) 0 := ⟨z_m 852 rfl rfl, z_m 23 rfl rfl, z_m 122 rfl rfl, z_m 853 rfl rfl, nc1_Pa, nc2_Pa, by decide +kernel⟩
def y_Pa_readBranch : MethodName := ⟨"StreamForge$Parser", "readBranch", "()Z"⟩
set_option maxRecDepth 100000 in
theorem yi_Pa_readBranch : z_yV y_Pa_readBranch prog_8_method_15_code 2 (some .boolean) 0 := ⟨z_m 863 rfl rfl, z_m 25 rfl rfl, z_m 122 rfl rfl, z_m 864 rfl rfl, nc1_Pa, nc2_Pa, by decide +kernel⟩
def y_Pa_isLetter : MethodName := ⟨"StreamForge$Parser", "isLetter", "(I)Z"⟩
set_option maxRecDepth 100000 in
theorem yi_Pa_isLetter : z_yS y_Pa_isLetter prog_8_method_16_code 1 (some .boolean) 1 := ⟨z_m 855 rfl rfl, z_m 122 rfl rfl, z_m 856 rfl rfl, nc1_Pa, nc2_Pa, by decide +kernel⟩
def y_Pa_readText : MethodName := ⟨"StreamForge$Parser", "readText", "()Z"⟩
set_option maxRecDepth 100000 in
theorem yi_Pa_readText : z_yV y_Pa_readText prog_8_method_17_code 1 (some .boolean) 0 := ⟨z_m 899 rfl rfl, z_m 32 rfl rfl, z_m 122 rfl rfl, z_m 900 rfl rfl, nc1_Pa, nc2_Pa, by decide +kernel⟩
def y_Pa_readSubstitution : MethodName := ⟨"StreamForge$Parser", "readSubstitution", "()Z"⟩
set_option maxRecDepth 100000 in
theorem yi_Pa_readSubstitution : z_yV y_Pa_readSubstitution prog_8_method_18_code 1 (some .boolean) 0 := ⟨z_m 867 rfl rfl, z_m 26 rfl rfl, z_m 122 rfl rfl, z_m 868 rfl rfl, nc1_Pa, nc2_Pa, by decide +kernel⟩
def y_Pa_readReplacement : MethodName := ⟨"StreamForge$Parser", "readReplacement", "()Z"⟩
set_option maxRecDepth 100000 in
theorem yi_Pa_readReplacement : z_yV y_Pa_readReplacement prog_8_method_19_code 3 (some .boolean) 0 := ⟨z_m 872 rfl rfl, z_m 27 rfl rfl, z_m 122 rfl rfl, z_m 873 rfl rfl, nc1_Pa, nc2_Pa, by decide +kernel⟩
def y_Pa_mayFollowBackslash : MethodName := ⟨"StreamForge$Parser", "mayFollowBackslash", "(I)Z"⟩
set_option maxRecDepth 100000 in
theorem yi_Pa_mayFollowBackslash : z_yV y_Pa_mayFollowBackslash prog_8_method_20_code 3 (some .boolean) 1 := ⟨z_m 876 rfl rfl, z_m 28 rfl rfl, z_m 122 rfl rfl, z_m 877 rfl rfl, nc1_Pa, nc2_Pa, by decide +kernel⟩
def y_Pa_readFlags : MethodName := ⟨"StreamForge$Parser", "readFlags", "()Z"⟩
set_option maxRecDepth 100000 in
theorem yi_Pa_readFlags : z_yV y_Pa_readFlags prog_8_method_21_code 3 (some .boolean) 0 := ⟨z_m 880 rfl rfl, z_m 29 rfl rfl, z_m 122 rfl rfl, z_m 881 rfl rfl, nc1_Pa, nc2_Pa, by decide +kernel⟩
def y_Pa_readExchange : MethodName := ⟨"StreamForge$Parser", "readExchange", "()Z"⟩
set_option maxRecDepth 100000 in
theorem yi_Pa_readExchange : z_yV y_Pa_readExchange prog_8_method_22_code 2 (some .boolean) 0 := ⟨z_m 884 rfl rfl, z_m 30 rfl rfl, z_m 122 rfl rfl, z_m 885 rfl rfl, nc1_Pa, nc2_Pa, by decide +kernel⟩
def y_Pa_isExchangeable : MethodName := ⟨"StreamForge$Parser", "isExchangeable", "(I)Z"⟩
set_option maxRecDepth 100000 in
theorem yi_Pa_isExchangeable : z_yS y_Pa_isExchangeable prog_8_method_23_code 1 (some .boolean) 1 := ⟨z_m 887 rfl rfl, z_m 122 rfl rfl, z_m 888 rfl rfl, nc1_Pa, nc2_Pa, by decide +kernel⟩
def y_Pa_wasExchanged : MethodName := ⟨"StreamForge$Parser", "wasExchanged", "(I)Z"⟩
set_option maxRecDepth 100000 in
theorem yi_Pa_wasExchanged : z_yV y_Pa_wasExchanged prog_8_method_24_code 3 (some .boolean) 1 := ⟨z_m 891 rfl rfl, z_m 31 rfl rfl, z_m 122 rfl rfl, z_m 892 rfl rfl, nc1_Pa, nc2_Pa, by decide +kernel⟩
def y_Pa_joinLabels : MethodName := ⟨"StreamForge$Parser", "joinLabels", "()Z"⟩
set_option maxRecDepth 100000 in
theorem yi_Pa_joinLabels : z_yV y_Pa_joinLabels prog_8_method_25_code 3 (some .boolean) 0 := ⟨z_m 907 rfl rfl, z_m 33 rfl rfl, z_m 122 rfl rfl, z_m 908 rfl rfl, nc1_Pa, nc2_Pa, by decide +kernel⟩
def y_Pt_init : MethodName := ⟨"StreamForge$Pattern", "<init>", "()V"⟩
def y_Pr_init : MethodName := ⟨"StreamForge$PatternReader", "<init>", "(LStreamForge$Cursor;)V"⟩
def y_Pr_read : MethodName := ⟨"StreamForge$PatternReader", "read", "(LStreamForge$Pattern;LStreamForge$Items;)Z"⟩
set_option maxRecDepth 100000 in
theorem yi_Pr_read : z_yV y_Pr_read prog_10_method_2_code 6 (some .boolean) 2 := ⟨z_m 755 rfl rfl, z_m 756 rfl rfl, z_m 124 rfl rfl, z_m 757 rfl rfl, nc1_Pr, nc2_Pr, by decide +kernel⟩
def y_Pr_begin : MethodName := ⟨"StreamForge$PatternReader", "begin", "(LStreamForge$Pattern;LStreamForge$Items;)V"⟩
set_option maxRecDepth 100000 in
theorem yi_Pr_begin : z_yV y_Pr_begin prog_10_method_3_code 3 none 2 := ⟨z_m 760 rfl rfl, z_m 6 rfl rfl, z_m 124 rfl rfl, z_m 761 rfl rfl, nc1_Pr, nc2_Pr, by decide +kernel⟩
def y_Pr_finish : MethodName := ⟨"StreamForge$PatternReader", "finish", "()V"⟩
set_option maxRecDepth 100000 in
theorem yi_Pr_finish : z_yV y_Pr_finish prog_10_method_4_code 1 none 0 := ⟨z_m 836 rfl rfl, z_m 19 rfl rfl, z_m 124 rfl rfl, z_m 837 rfl rfl, nc1_Pr, nc2_Pr, by decide +kernel⟩
def y_Pr_readStar : MethodName := ⟨"StreamForge$PatternReader", "readStar", "()Z"⟩
set_option maxRecDepth 100000 in
theorem yi_Pr_readStar : z_yV y_Pr_readStar prog_10_method_5_code 1 (some .boolean) 0 := ⟨z_m 765 rfl rfl, z_m 7 rfl rfl, z_m 124 rfl rfl, z_m 766 rfl rfl, nc1_Pr, nc2_Pr, by decide +kernel⟩
def y_Pr_mayEnd : MethodName := ⟨"StreamForge$PatternReader", "mayEnd", "()Z"⟩
set_option maxRecDepth 100000 in
theorem yi_Pr_mayEnd : z_yV y_Pr_mayEnd prog_10_method_6_code 2 (some .boolean) 0 := ⟨z_m 824 rfl rfl, z_m 16 rfl rfl, z_m 124 rfl rfl, z_m 825 rfl rfl, nc1_Pr, nc2_Pr, by decide +kernel⟩
def y_Pr_readEnd : MethodName := ⟨"StreamForge$PatternReader", "readEnd", "()Z"⟩
set_option maxRecDepth 100000 in
theorem yi_Pr_readEnd : z_yV y_Pr_readEnd prog_10_method_7_code 1 (some .boolean) 0 := ⟨z_m 828 rfl rfl, z_m 17 rfl rfl, z_m 124 rfl rfl, z_m 829 rfl rfl, nc1_Pr, nc2_Pr, by decide +kernel⟩
def y_Pr_readPlain : MethodName := ⟨"StreamForge$PatternReader", "readPlain", "()Z"⟩
set_option maxRecDepth 100000 in
theorem yi_Pr_readPlain : z_yV y_Pr_readPlain prog_10_method_8_code 2 (some .boolean) 0 := ⟨z_m 832 rfl rfl, z_m 18 rfl rfl, z_m 124 rfl rfl, z_m 833 rfl rfl, nc1_Pr, nc2_Pr, by decide +kernel⟩
def y_Pr_addOne : MethodName := ⟨"StreamForge$PatternReader", "addOne", "()Z"⟩
set_option maxRecDepth 100000 in
theorem yi_Pr_addOne : z_yV y_Pr_addOne prog_10_method_9_code 1 (some .boolean) 0 := ⟨z_m 794 rfl rfl, z_m 13 rfl rfl, z_m 124 rfl rfl, z_m 795 rfl rfl, nc1_Pr, nc2_Pr, by decide +kernel⟩
def y_Pr_readEscape : MethodName := ⟨"StreamForge$PatternReader", "readEscape", "()Z"⟩
set_option maxRecDepth 100000 in
theorem yi_Pr_readEscape : z_yV y_Pr_readEscape prog_10_method_10_code 2 (some .boolean) 0 := ⟨z_m 770 rfl rfl, z_m 8 rfl rfl, z_m 124 rfl rfl, z_m 771 rfl rfl, nc1_Pr, nc2_Pr, by decide +kernel⟩
def y_Pr_mayEscape : MethodName := ⟨"StreamForge$PatternReader", "mayEscape", "()Z"⟩
set_option maxRecDepth 100000 in
theorem yi_Pr_mayEscape : z_yV y_Pr_mayEscape prog_10_method_11_code 1 (some .boolean) 0 := ⟨z_m 774 rfl rfl, z_m 9 rfl rfl, z_m 124 rfl rfl, z_m 775 rfl rfl, nc1_Pr, nc2_Pr, by decide +kernel⟩
def y_Pr_openGroup : MethodName := ⟨"StreamForge$PatternReader", "openGroup", "()Z"⟩
set_option maxRecDepth 100000 in
theorem yi_Pr_openGroup : z_yV y_Pr_openGroup prog_10_method_12_code 1 (some .boolean) 0 := ⟨z_m 778 rfl rfl, z_m 10 rfl rfl, z_m 124 rfl rfl, z_m 779 rfl rfl, nc1_Pr, nc2_Pr, by decide +kernel⟩
def y_Pr_closeGroup : MethodName := ⟨"StreamForge$PatternReader", "closeGroup", "()Z"⟩
set_option maxRecDepth 100000 in
theorem yi_Pr_closeGroup : z_yV y_Pr_closeGroup prog_10_method_13_code 1 (some .boolean) 0 := ⟨z_m 786 rfl rfl, z_m 11 rfl rfl, z_m 124 rfl rfl, z_m 787 rfl rfl, nc1_Pr, nc2_Pr, by decide +kernel⟩
def y_Pr_readSame : MethodName := ⟨"StreamForge$PatternReader", "readSame", "(I)Z"⟩
set_option maxRecDepth 100000 in
theorem yi_Pr_readSame : z_yV y_Pr_readSame prog_10_method_14_code 3 (some .boolean) 1 := ⟨z_m 790 rfl rfl, z_m 12 rfl rfl, z_m 124 rfl rfl, z_m 791 rfl rfl, nc1_Pr, nc2_Pr, by decide +kernel⟩
def y_Pr_readSet : MethodName := ⟨"StreamForge$PatternReader", "readSet", "()Z"⟩
set_option maxRecDepth 100000 in
theorem yi_Pr_readSet : z_yV y_Pr_readSet prog_10_method_15_code 4 (some .boolean) 0 := ⟨z_m 802 rfl rfl, z_m 14 rfl rfl, z_m 124 rfl rfl, z_m 803 rfl rfl, nc1_Pr, nc2_Pr, by decide +kernel⟩
def y_Pr_readRange : MethodName := ⟨"StreamForge$PatternReader", "readRange", "()Z"⟩
set_option maxRecDepth 100000 in
theorem yi_Pr_readRange : z_yV y_Pr_readRange prog_10_method_16_code 3 (some .boolean) 0 := ⟨z_m 806 rfl rfl, z_m 15 rfl rfl, z_m 124 rfl rfl, z_m 807 rfl rfl, nc1_Pr, nc2_Pr, by decide +kernel⟩
def y_Pr_isOutsideSets : MethodName := ⟨"StreamForge$PatternReader", "isOutsideSets", "(I)Z"⟩
set_option maxRecDepth 100000 in
theorem yi_Pr_isOutsideSets : z_yS y_Pr_isOutsideSets prog_10_method_17_code 1 (some .boolean) 1 := ⟨z_m 809 rfl rfl, z_m 124 rfl rfl, z_m 810 rfl rfl, nc1_Pr, nc2_Pr, by decide +kernel⟩
def y_Prog_init : MethodName := ⟨"StreamForge$Program", "<init>", "()V"⟩
def y_Row_init : MethodName := ⟨"StreamForge$Row", "<init>", "(I)V"⟩
def y_Row_hasRoom : MethodName := ⟨"StreamForge$Row", "hasRoom", "(I)Z"⟩
set_option maxRecDepth 100000 in
theorem yi_Row_hasRoom : z_yV y_Row_hasRoom prog_12_method_2_code 2 (some .boolean) 1 := ⟨z_m 667 rfl rfl, z_m 668 rfl rfl, z_m 121 rfl rfl, z_m 669 rfl rfl, nc1_Row, nc2_Row, by decide +kernel⟩
def y_Row_at : MethodName := ⟨"StreamForge$Row", "at", "(I)I"⟩
set_option maxRecDepth 100000 in
theorem yi_Row_at : z_yV y_Row_at prog_12_method_3_code 2 (some .int) 1 := ⟨z_m 894 rfl rfl, z_m 895 rfl rfl, z_m 121 rfl rfl, z_m 896 rfl rfl, nc1_Row, nc2_Row, by decide +kernel⟩
def y_Row_empty : MethodName := ⟨"StreamForge$Row", "empty", "()V"⟩
set_option maxRecDepth 100000 in
theorem yi_Row_empty : z_yV y_Row_empty prog_12_method_4_code 1 none 0 := ⟨z_m 700 rfl rfl, z_m 701 rfl rfl, z_m 121 rfl rfl, z_m 702 rfl rfl, nc1_Row, nc2_Row, by decide +kernel⟩
def y_Row_add : MethodName := ⟨"StreamForge$Row", "add", "(I)V"⟩
set_option maxRecDepth 100000 in
theorem yi_Row_add : z_yV y_Row_add prog_12_method_5_code 2 none 1 := ⟨z_m 689 rfl rfl, z_m 690 rfl rfl, z_m 121 rfl rfl, z_m 691 rfl rfl, nc1_Row, nc2_Row, by decide +kernel⟩
def y_Row_addPart : MethodName := ⟨"StreamForge$Row", "addPart", "(LStreamForge$Row;II)V"⟩
set_option maxRecDepth 100000 in
theorem yi_Row_addPart : z_yV y_Row_addPart prog_12_method_6_code 5 none 3 := ⟨z_m 720 rfl rfl, z_m 721 rfl rfl, z_m 121 rfl rfl, z_m 722 rfl rfl, nc1_Row, nc2_Row, by decide +kernel⟩
def y_Row_dropFirst : MethodName := ⟨"StreamForge$Row", "dropFirst", "(I)V"⟩
set_option maxRecDepth 100000 in
theorem yi_Row_dropFirst : z_yV y_Row_dropFirst prog_12_method_7_code 3 none 1 := ⟨z_m 1104 rfl rfl, z_m 1105 rfl rfl, z_m 121 rfl rfl, z_m 1106 rfl rfl, nc1_Row, nc2_Row, by decide +kernel⟩
def y_Row_newlineFrom : MethodName := ⟨"StreamForge$Row", "newlineFrom", "(I)I"⟩
set_option maxRecDepth 100000 in
theorem yi_Row_newlineFrom : z_yV y_Row_newlineFrom prog_12_method_8_code 3 (some .int) 1 := ⟨z_m 902 rfl rfl, z_m 903 rfl rfl, z_m 121 rfl rfl, z_m 904 rfl rfl, nc1_Row, nc2_Row, by decide +kernel⟩
def y_Law_script : MethodName := ⟨"StreamForgeLaw", "script", "(LStreamForge;J[J)I"⟩
def y_Law_clear : MethodName := ⟨"StreamForgeLaw", "clear", "(LStreamForge;I[J)I"⟩
def y_Law_parse : MethodName := ⟨"StreamForgeLaw", "parse", "(LStreamForge;[J)I"⟩
def y_Law_line : MethodName := ⟨"StreamForgeLaw", "line", "(LStreamForge;JJ[J)I"⟩
def y_Law_more : MethodName := ⟨"StreamForgeLaw", "more", "(LStreamForge;J[J)I"⟩
def y_Law_run : MethodName := ⟨"StreamForgeLaw", "run", "(LStreamForge;[J)I"⟩
def y_Law_out : MethodName := ⟨"StreamForgeLaw", "out", "(LStreamForge;I[J)I"⟩
def y_Law_ran : MethodName := ⟨"StreamForgeLaw", "ran", "(LStreamForge;I[J)I"⟩
def y_Law_match : MethodName := ⟨"StreamForgeLaw", "match", "(LStreamForge;III[J)I"⟩
def y_Law_count : MethodName := ⟨"StreamForgeLaw", "count", "(LStreamForge;I[J)I"⟩
def y_Law_law : MethodName := ⟨"StreamForgeLaw", "law", "([I)Z"⟩
set_option maxRecDepth 100000 in
theorem wm_Law_52 : Cond.methodLink "StreamForgeLaw" 52 y_SF_init ∈ zT := z_m 143 rfl rfl
set_option maxRecDepth 100000 in
theorem wm_SF_11 : Cond.methodLink "StreamForge" 11 y_Row_init ∈ zT := z_m 151 rfl rfl
set_option maxRecDepth 100000 in
theorem wm_Pa_20 : Cond.methodLink "StreamForge$Parser" 20 y_Pr_init ∈ zT := z_m 200 rfl rfl
set_option maxRecDepth 100000 in
theorem wm_Ed_11 : Cond.methodLink "StreamForge$Editor" 11 y_Row_init ∈ zT := z_m 256 rfl rfl
set_option maxRecDepth 100000 in
theorem wm_SF_45 : Cond.methodLink "StreamForge" 45 y_Prog_init ∈ zT := z_m 356 rfl rfl
set_option maxRecDepth 100000 in
theorem wm_Prog_11 : Cond.methodLink "StreamForge$Program" 11 y_Row_init ∈ zT := z_m 361 rfl rfl
set_option maxRecDepth 100000 in
theorem wm_Law_75 : Cond.methodLink "StreamForgeLaw" 75 y_SF_where ∈ zT := z_m 580 rfl rfl
set_option maxRecDepth 100000 in
theorem wm_Law_58 : Cond.methodLink "StreamForgeLaw" 58 y_Law_script ∈ zT := z_m 584 rfl rfl
set_option maxRecDepth 100000 in
theorem wm_Law_7 : Cond.methodLink "StreamForgeLaw" 7 y_SF_script ∈ zT := z_m 589 rfl rfl
set_option maxRecDepth 100000 in
theorem wm_SF_57 : Cond.methodLink "StreamForge" 57 y_SF_isText ∈ zT := z_m 593 rfl rfl
set_option maxRecDepth 100000 in
theorem wm_SF_158 : Cond.methodLink "StreamForge" 158 y_SF_byteOf ∈ zT := z_m 596 rfl rfl
set_option maxRecDepth 100000 in
theorem wm_SF_64 : Cond.methodLink "StreamForge" 64 y_SF_textLength ∈ zT := z_m 663 rfl rfl
set_option maxRecDepth 100000 in
theorem wm_SF_68 : Cond.methodLink "StreamForge" 68 y_Row_hasRoom ∈ zT := z_m 666 rfl rfl
set_option maxRecDepth 100000 in
theorem wm_SF_75 : Cond.methodLink "StreamForge" 75 y_SF_addText ∈ zT := z_m 685 rfl rfl
set_option maxRecDepth 100000 in
theorem wm_SF_162 : Cond.methodLink "StreamForge" 162 y_Row_add ∈ zT := z_m 688 rfl rfl
set_option maxRecDepth 100000 in
theorem wm_Law_64 : Cond.methodLink "StreamForgeLaw" 64 y_Law_clear ∈ zT := z_m 692 rfl rfl
set_option maxRecDepth 100000 in
theorem wm_Law_17 : Cond.methodLink "StreamForgeLaw" 17 y_SF_clear ∈ zT := z_m 695 rfl rfl
set_option maxRecDepth 100000 in
theorem wm_SF_82 : Cond.methodLink "StreamForge" 82 y_Row_empty ∈ zT := z_m 699 rfl rfl
set_option maxRecDepth 100000 in
theorem wm_Law_71 : Cond.methodLink "StreamForgeLaw" 71 y_Law_parse ∈ zT := z_m 703 rfl rfl
set_option maxRecDepth 100000 in
theorem wm_Law_21 : Cond.methodLink "StreamForgeLaw" 21 y_SF_parse ∈ zT := z_m 706 rfl rfl
set_option maxRecDepth 100000 in
theorem wm_SF_88 : Cond.methodLink "StreamForge" 88 y_Pa_read ∈ zT := z_m 710 rfl rfl
set_option maxRecDepth 100000 in
theorem wm_Pa_38 : Cond.methodLink "StreamForge$Parser" 38 y_Pa_begin ∈ zT := z_m 714 rfl rfl
set_option maxRecDepth 100000 in
theorem wm_Pa_82 : Cond.methodLink "StreamForge$Parser" 82 y_Row_empty ∈ zT := z_m 718 rfl rfl
set_option maxRecDepth 100000 in
theorem wm_Pa_90 : Cond.methodLink "StreamForge$Parser" 90 y_Row_addPart ∈ zT := z_m 719 rfl rfl
set_option maxRecDepth 100000 in
theorem wm_Pa_42 : Cond.methodLink "StreamForge$Parser" 42 y_Cur_look ∈ zT := z_m 723 rfl rfl
set_option maxRecDepth 100000 in
theorem wm_Pa_49 : Cond.methodLink "StreamForge$Parser" 49 y_Pa_closeBlock ∈ zT := z_m 727 rfl rfl
set_option maxRecDepth 100000 in
theorem wm_Pa_68 : Cond.methodLink "StreamForge$Parser" 68 y_Cur_refuse ∈ zT := z_m 731 rfl rfl
set_option maxRecDepth 100000 in
theorem wm_Pa_53 : Cond.methodLink "StreamForge$Parser" 53 y_Pa_beginCommand ∈ zT := z_m 735 rfl rfl
set_option maxRecDepth 100000 in
theorem wm_Pa_118 : Cond.methodLink "StreamForge$Parser" 118 y_Cmd_reset ∈ zT := z_m 739 rfl rfl
set_option maxRecDepth 100000 in
theorem wm_Pa_56 : Cond.methodLink "StreamForge$Parser" 56 y_Pa_readAddresses ∈ zT := z_m 743 rfl rfl
set_option maxRecDepth 100000 in
theorem wm_Pa_121 : Cond.methodLink "StreamForge$Parser" 121 y_Pa_startsAddress ∈ zT := z_m 747 rfl rfl
set_option maxRecDepth 100000 in
theorem wm_Pa_128 : Cond.methodLink "StreamForge$Parser" 128 y_Pa_readAddress ∈ zT := z_m 750 rfl rfl
set_option maxRecDepth 100000 in
theorem wm_Pa_154 : Cond.methodLink "StreamForge$Parser" 154 y_Pr_read ∈ zT := z_m 754 rfl rfl
set_option maxRecDepth 100000 in
theorem wm_Pr_15 : Cond.methodLink "StreamForge$PatternReader" 15 y_Pr_begin ∈ zT := z_m 758 rfl rfl
set_option maxRecDepth 100000 in
theorem wm_Pr_19 : Cond.methodLink "StreamForge$PatternReader" 19 y_Cur_look ∈ zT := z_m 762 rfl rfl
set_option maxRecDepth 100000 in
theorem wm_Pr_25 : Cond.methodLink "StreamForge$PatternReader" 25 y_Pr_readStar ∈ zT := z_m 763 rfl rfl
set_option maxRecDepth 100000 in
theorem wm_Pr_51 : Cond.methodLink "StreamForge$PatternReader" 51 y_Cur_refuse ∈ zT := z_m 767 rfl rfl
set_option maxRecDepth 100000 in
theorem wm_Pr_29 : Cond.methodLink "StreamForge$PatternReader" 29 y_Pr_readEscape ∈ zT := z_m 768 rfl rfl
set_option maxRecDepth 100000 in
theorem wm_Pr_120 : Cond.methodLink "StreamForge$PatternReader" 120 y_Pr_mayEscape ∈ zT := z_m 772 rfl rfl
set_option maxRecDepth 100000 in
theorem wm_Pr_123 : Cond.methodLink "StreamForge$PatternReader" 123 y_Pr_openGroup ∈ zT := z_m 776 rfl rfl
set_option maxRecDepth 100000 in
theorem wm_Pr_117 : Cond.methodLink "StreamForge$PatternReader" 117 y_It_add ∈ zT := z_m 780 rfl rfl
set_option maxRecDepth 100000 in
theorem wm_Pr_126 : Cond.methodLink "StreamForge$PatternReader" 126 y_Pr_closeGroup ∈ zT := z_m 784 rfl rfl
set_option maxRecDepth 100000 in
theorem wm_Pr_129 : Cond.methodLink "StreamForge$PatternReader" 129 y_Pr_readSame ∈ zT := z_m 788 rfl rfl
set_option maxRecDepth 100000 in
theorem wm_Pr_107 : Cond.methodLink "StreamForge$PatternReader" 107 y_Pr_addOne ∈ zT := z_m 792 rfl rfl
set_option maxRecDepth 100000 in
theorem wm_Pr_113 : Cond.methodLink "StreamForge$PatternReader" 113 y_It_allow ∈ zT := z_m 796 rfl rfl
set_option maxRecDepth 100000 in
theorem wm_Pr_32 : Cond.methodLink "StreamForge$PatternReader" 32 y_Pr_readSet ∈ zT := z_m 800 rfl rfl
set_option maxRecDepth 100000 in
theorem wm_Pr_132 : Cond.methodLink "StreamForge$PatternReader" 132 y_Pr_readRange ∈ zT := z_m 804 rfl rfl
set_option maxRecDepth 100000 in
theorem wm_Pr_135 : Cond.methodLink "StreamForge$PatternReader" 135 y_Pr_isOutsideSets ∈ zT := z_m 808 rfl rfl
set_option maxRecDepth 100000 in
theorem wm_Pr_110 : Cond.methodLink "StreamForge$PatternReader" 110 y_It_turn ∈ zT := z_m 811 rfl rfl
set_option maxRecDepth 100000 in
theorem wm_Pr_55 : Cond.methodLink "StreamForge$PatternReader" 55 y_Cur_pass ∈ zT := z_m 816 rfl rfl
set_option maxRecDepth 100000 in
theorem wm_Cur_31 : Cond.methodLink "StreamForge$Cursor" 31 y_Cur_look ∈ zT := z_m 820 rfl rfl
set_option maxRecDepth 100000 in
theorem wm_Cur_35 : Cond.methodLink "StreamForge$Cursor" 35 y_Cur_refuse ∈ zT := z_m 821 rfl rfl
set_option maxRecDepth 100000 in
theorem wm_Pr_35 : Cond.methodLink "StreamForge$PatternReader" 35 y_Pr_mayEnd ∈ zT := z_m 822 rfl rfl
set_option maxRecDepth 100000 in
theorem wm_Pr_38 : Cond.methodLink "StreamForge$PatternReader" 38 y_Pr_readEnd ∈ zT := z_m 826 rfl rfl
set_option maxRecDepth 100000 in
theorem wm_Pr_41 : Cond.methodLink "StreamForge$PatternReader" 41 y_Pr_readPlain ∈ zT := z_m 830 rfl rfl
set_option maxRecDepth 100000 in
theorem wm_Pr_44 : Cond.methodLink "StreamForge$PatternReader" 44 y_Pr_finish ∈ zT := z_m 834 rfl rfl
set_option maxRecDepth 100000 in
theorem wm_Pa_138 : Cond.methodLink "StreamForge$Parser" 138 y_Pa_passBlanks ∈ zT := z_m 838 rfl rfl
set_option maxRecDepth 100000 in
theorem wm_Pa_59 : Cond.methodLink "StreamForge$Parser" 59 y_Pa_readAction ∈ zT := z_m 842 rfl rfl
set_option maxRecDepth 100000 in
theorem wm_Pa_163 : Cond.methodLink "StreamForge$Parser" 163 y_Pa_openBlock ∈ zT := z_m 846 rfl rfl
set_option maxRecDepth 100000 in
theorem wm_Pa_166 : Cond.methodLink "StreamForge$Parser" 166 y_Pa_placeLabel ∈ zT := z_m 850 rfl rfl
set_option maxRecDepth 100000 in
theorem wm_Pa_184 : Cond.methodLink "StreamForge$Parser" 184 y_Pa_isLetter ∈ zT := z_m 854 rfl rfl
set_option maxRecDepth 100000 in
theorem wm_Pa_169 : Cond.methodLink "StreamForge$Parser" 169 y_Pa_endCommand ∈ zT := z_m 857 rfl rfl
set_option maxRecDepth 100000 in
theorem wm_Pa_172 : Cond.methodLink "StreamForge$Parser" 172 y_Pa_readBranch ∈ zT := z_m 861 rfl rfl
set_option maxRecDepth 100000 in
theorem wm_Pa_175 : Cond.methodLink "StreamForge$Parser" 175 y_Pa_readSubstitution ∈ zT := z_m 865 rfl rfl
set_option maxRecDepth 100000 in
theorem wm_Pa_190 : Cond.methodLink "StreamForge$Parser" 190 y_Cur_pass ∈ zT := z_m 869 rfl rfl
set_option maxRecDepth 100000 in
theorem wm_Pa_203 : Cond.methodLink "StreamForge$Parser" 203 y_Pa_readReplacement ∈ zT := z_m 870 rfl rfl
set_option maxRecDepth 100000 in
theorem wm_Pa_209 : Cond.methodLink "StreamForge$Parser" 209 y_Pa_mayFollowBackslash ∈ zT := z_m 874 rfl rfl
set_option maxRecDepth 100000 in
theorem wm_Pa_206 : Cond.methodLink "StreamForge$Parser" 206 y_Pa_readFlags ∈ zT := z_m 878 rfl rfl
set_option maxRecDepth 100000 in
theorem wm_Pa_178 : Cond.methodLink "StreamForge$Parser" 178 y_Pa_readExchange ∈ zT := z_m 882 rfl rfl
set_option maxRecDepth 100000 in
theorem wm_Pa_226 : Cond.methodLink "StreamForge$Parser" 226 y_Pa_isExchangeable ∈ zT := z_m 886 rfl rfl
set_option maxRecDepth 100000 in
theorem wm_Pa_229 : Cond.methodLink "StreamForge$Parser" 229 y_Pa_wasExchanged ∈ zT := z_m 889 rfl rfl
set_option maxRecDepth 100000 in
theorem wm_Pa_235 : Cond.methodLink "StreamForge$Parser" 235 y_Row_at ∈ zT := z_m 893 rfl rfl
set_option maxRecDepth 100000 in
theorem wm_Pa_181 : Cond.methodLink "StreamForge$Parser" 181 y_Pa_readText ∈ zT := z_m 897 rfl rfl
set_option maxRecDepth 100000 in
theorem wm_Pa_196 : Cond.methodLink "StreamForge$Parser" 196 y_Row_newlineFrom ∈ zT := z_m 901 rfl rfl
set_option maxRecDepth 100000 in
theorem wm_Pa_65 : Cond.methodLink "StreamForge$Parser" 65 y_Pa_joinLabels ∈ zT := z_m 905 rfl rfl
set_option maxRecDepth 100000 in
theorem wm_SF_92 : Cond.methodLink "StreamForge" 92 y_Pa_refusedAt ∈ zT := z_m 909 rfl rfl
set_option maxRecDepth 100000 in
theorem wm_Law_79 : Cond.methodLink "StreamForgeLaw" 79 y_Law_line ∈ zT := z_m 913 rfl rfl
set_option maxRecDepth 100000 in
theorem wm_Law_25 : Cond.methodLink "StreamForgeLaw" 25 y_SF_line ∈ zT := z_m 916 rfl rfl
set_option maxRecDepth 100000 in
theorem wm_Law_83 : Cond.methodLink "StreamForgeLaw" 83 y_Law_more ∈ zT := z_m 920 rfl rfl
set_option maxRecDepth 100000 in
theorem wm_Law_29 : Cond.methodLink "StreamForgeLaw" 29 y_SF_more ∈ zT := z_m 923 rfl rfl
set_option maxRecDepth 100000 in
theorem wm_Law_86 : Cond.methodLink "StreamForgeLaw" 86 y_Law_run ∈ zT := z_m 927 rfl rfl
set_option maxRecDepth 100000 in
theorem wm_Law_32 : Cond.methodLink "StreamForgeLaw" 32 y_SF_run ∈ zT := z_m 932 rfl rfl
set_option maxRecDepth 100000 in
theorem wm_SF_102 : Cond.methodLink "StreamForge" 102 y_Ed_edit ∈ zT := z_m 936 rfl rfl
set_option maxRecDepth 100000 in
theorem wm_Ed_51 : Cond.methodLink "StreamForge$Editor" 51 y_Ed_begin ∈ zT := z_m 940 rfl rfl
set_option maxRecDepth 100000 in
theorem wm_Ed_96 : Cond.methodLink "StreamForge$Editor" 96 y_Row_empty ∈ zT := z_m 944 rfl rfl
set_option maxRecDepth 100000 in
theorem wm_Ed_111 : Cond.methodLink "StreamForge$Editor" 111 y_Ed_beginLine ∈ zT := z_m 945 rfl rfl
set_option maxRecDepth 100000 in
theorem wm_Ed_114 : Cond.methodLink "StreamForge$Editor" 114 y_Ed_readLine ∈ zT := z_m 949 rfl rfl
set_option maxRecDepth 100000 in
theorem wm_Ed_126 : Cond.methodLink "StreamForge$Editor" 126 y_Row_addPart ∈ zT := z_m 953 rfl rfl
set_option maxRecDepth 100000 in
theorem wm_Ed_117 : Cond.methodLink "StreamForge$Editor" 117 y_Ed_beginCycle ∈ zT := z_m 954 rfl rfl
set_option maxRecDepth 100000 in
theorem wm_Ed_66 : Cond.methodLink "StreamForge$Editor" 66 y_Ed_endCycle ∈ zT := z_m 958 rfl rfl
set_option maxRecDepth 100000 in
theorem wm_Ed_130 : Cond.methodLink "StreamForge$Editor" 130 y_Ed_tell ∈ zT := z_m 962 rfl rfl
set_option maxRecDepth 100000 in
theorem wm_Ed_136 : Cond.methodLink "StreamForge$Editor" 136 y_Row_hasRoom ∈ zT := z_m 966 rfl rfl
set_option maxRecDepth 100000 in
theorem wm_Ed_143 : Cond.methodLink "StreamForge$Editor" 143 y_Row_add ∈ zT := z_m 982 rfl rfl
set_option maxRecDepth 100000 in
theorem wm_Ed_133 : Cond.methodLink "StreamForge$Editor" 133 y_Ed_tellAppended ∈ zT := z_m 983 rfl rfl
set_option maxRecDepth 100000 in
theorem wm_Ed_80 : Cond.methodLink "StreamForge$Editor" 80 y_Ed_isDone ∈ zT := z_m 1002 rfl rfl
set_option maxRecDepth 100000 in
theorem wm_Ed_157 : Cond.methodLink "StreamForge$Editor" 157 y_Ed_fits ∈ zT := z_m 1006 rfl rfl
set_option maxRecDepth 100000 in
theorem wm_Ed_187 : Cond.methodLink "StreamForge$Editor" 187 y_Ma_find ∈ zT := z_m 1010 rfl rfl
set_option maxRecDepth 100000 in
theorem wm_Ma_48 : Cond.methodLink "StreamForge$Matcher" 48 y_Ma_findLongest ∈ zT := z_m 1014 rfl rfl
set_option maxRecDepth 100000 in
theorem wm_Ma_67 : Cond.methodLink "StreamForge$Matcher" 67 y_Ma_walk ∈ zT := z_m 1018 rfl rfl
set_option maxRecDepth 100000 in
theorem wm_Ma_103 : Cond.methodLink "StreamForge$Matcher" 103 y_Ma_standsAgain ∈ zT := z_m 1022 rfl rfl
set_option maxRecDepth 100000 in
theorem wm_Ma_92 : Cond.methodLink "StreamForge$Matcher" 92 y_It_takes ∈ zT := z_m 1026 rfl rfl
set_option maxRecDepth 100000 in
theorem wm_Ma_71 : Cond.methodLink "StreamForge$Matcher" 71 y_Ma_repeats ∈ zT := z_m 1030 rfl rfl
set_option maxRecDepth 100000 in
theorem wm_Ma_81 : Cond.methodLink "StreamForge$Matcher" 81 y_Ma_keepIfLongest ∈ zT := z_m 1034 rfl rfl
set_option maxRecDepth 100000 in
theorem wm_Ed_164 : Cond.methodLink "StreamForge$Editor" 164 y_Ed_isReached ∈ zT := z_m 1038 rfl rfl
set_option maxRecDepth 100000 in
theorem wm_Ed_84 : Cond.methodLink "StreamForge$Editor" 84 y_Ed_perform ∈ zT := z_m 1042 rfl rfl
set_option maxRecDepth 100000 in
theorem wm_Ed_191 : Cond.methodLink "StreamForge$Editor" 191 y_Ed_branchIfReplaced ∈ zT := z_m 1046 rfl rfl
set_option maxRecDepth 100000 in
theorem wm_Ed_194 : Cond.methodLink "StreamForge$Editor" 194 y_Ed_substitute ∈ zT := z_m 1050 rfl rfl
set_option maxRecDepth 100000 in
theorem wm_Ed_262 : Cond.methodLink "StreamForge$Editor" 262 y_Cmd_replaces ∈ zT := z_m 1054 rfl rfl
set_option maxRecDepth 100000 in
theorem wm_Ed_265 : Cond.methodLink "StreamForge$Editor" 265 y_Ed_draftPart ∈ zT := z_m 1061 rfl rfl
set_option maxRecDepth 100000 in
theorem wm_Ed_269 : Cond.methodLink "StreamForge$Editor" 269 y_Ed_draftReplacement ∈ zT := z_m 1065 rfl rfl
set_option maxRecDepth 100000 in
theorem wm_Ed_247 : Cond.methodLink "StreamForge$Editor" 247 y_Row_at ∈ zT := z_m 1069 rfl rfl
set_option maxRecDepth 100000 in
theorem wm_Ed_279 : Cond.methodLink "StreamForge$Editor" 279 y_Ma_beginOf ∈ zT := z_m 1070 rfl rfl
set_option maxRecDepth 100000 in
theorem wm_Ed_282 : Cond.methodLink "StreamForge$Editor" 282 y_Ma_endOf ∈ zT := z_m 1074 rfl rfl
set_option maxRecDepth 100000 in
theorem wm_Ed_285 : Cond.methodLink "StreamForge$Editor" 285 y_Ed_draftCharacter ∈ zT := z_m 1078 rfl rfl
set_option maxRecDepth 100000 in
theorem wm_Ed_272 : Cond.methodLink "StreamForge$Editor" 272 y_Ed_takeDraft ∈ zT := z_m 1082 rfl rfl
set_option maxRecDepth 100000 in
theorem wm_Ed_197 : Cond.methodLink "StreamForge$Editor" 197 y_Ed_exchange ∈ zT := z_m 1086 rfl rfl
set_option maxRecDepth 100000 in
theorem wm_Ed_200 : Cond.methodLink "StreamForge$Editor" 200 y_Ed_append ∈ zT := z_m 1090 rfl rfl
set_option maxRecDepth 100000 in
theorem wm_Ed_212 : Cond.methodLink "StreamForge$Editor" 212 y_Ed_change ∈ zT := z_m 1094 rfl rfl
set_option maxRecDepth 100000 in
theorem wm_Ed_215 : Cond.methodLink "StreamForge$Editor" 215 y_Ed_deleteFirst ∈ zT := z_m 1098 rfl rfl
set_option maxRecDepth 100000 in
theorem wm_Ed_218 : Cond.methodLink "StreamForge$Editor" 218 y_Row_newlineFrom ∈ zT := z_m 1102 rfl rfl
set_option maxRecDepth 100000 in
theorem wm_Ed_244 : Cond.methodLink "StreamForge$Editor" 244 y_Row_dropFirst ∈ zT := z_m 1103 rfl rfl
set_option maxRecDepth 100000 in
theorem wm_Ed_222 : Cond.methodLink "StreamForge$Editor" 222 y_Ed_replaceByNext ∈ zT := z_m 1107 rfl rfl
set_option maxRecDepth 100000 in
theorem wm_Ed_241 : Cond.methodLink "StreamForge$Editor" 241 y_Ed_quit ∈ zT := z_m 1111 rfl rfl
set_option maxRecDepth 100000 in
theorem wm_Ed_225 : Cond.methodLink "StreamForge$Editor" 225 y_Ed_joinNext ∈ zT := z_m 1115 rfl rfl
set_option maxRecDepth 100000 in
theorem wm_Ed_228 : Cond.methodLink "StreamForge$Editor" 228 y_Ed_copy ∈ zT := z_m 1119 rfl rfl
set_option maxRecDepth 100000 in
theorem wm_Ed_232 : Cond.methodLink "StreamForge$Editor" 232 y_Ed_join ∈ zT := z_m 1123 rfl rfl
set_option maxRecDepth 100000 in
theorem wm_Ed_235 : Cond.methodLink "StreamForge$Editor" 235 y_Ed_swap ∈ zT := z_m 1127 rfl rfl
set_option maxRecDepth 100000 in
theorem wm_Ed_238 : Cond.methodLink "StreamForge$Editor" 238 y_Ed_tellNumber ∈ zT := z_m 1131 rfl rfl
set_option maxRecDepth 100000 in
theorem wm_Law_89 : Cond.methodLink "StreamForgeLaw" 89 y_Law_out ∈ zT := z_m 1135 rfl rfl
set_option maxRecDepth 100000 in
theorem wm_Law_39 : Cond.methodLink "StreamForgeLaw" 39 y_SF_out ∈ zT := z_m 1138 rfl rfl
set_option maxRecDepth 100000 in
theorem wm_SF_109 : Cond.methodLink "StreamForge" 109 y_Row_at ∈ zT := z_m 1142 rfl rfl
set_option maxRecDepth 100000 in
theorem wm_Law_92 : Cond.methodLink "StreamForgeLaw" 92 y_Law_ran ∈ zT := z_m 1145 rfl rfl
set_option maxRecDepth 100000 in
theorem wm_Law_42 : Cond.methodLink "StreamForgeLaw" 42 y_SF_ran ∈ zT := z_m 1148 rfl rfl
set_option maxRecDepth 100000 in
theorem wm_Law_95 : Cond.methodLink "StreamForgeLaw" 95 y_Law_match ∈ zT := z_m 1152 rfl rfl
set_option maxRecDepth 100000 in
theorem wm_Law_45 : Cond.methodLink "StreamForgeLaw" 45 y_SF_match ∈ zT := z_m 1155 rfl rfl
set_option maxRecDepth 100000 in
theorem wm_SF_151 : Cond.methodLink "StreamForge" 151 y_Ma_find ∈ zT := z_m 1159 rfl rfl
set_option maxRecDepth 100000 in
theorem wm_SF_155 : Cond.methodLink "StreamForge" 155 y_Ma_told ∈ zT := z_m 1160 rfl rfl
set_option maxRecDepth 100000 in
theorem wm_Law_99 : Cond.methodLink "StreamForgeLaw" 99 y_Law_count ∈ zT := z_m 1164 rfl rfl
set_option maxRecDepth 100000 in
theorem wm_Law_49 : Cond.methodLink "StreamForgeLaw" 49 y_SF_count ∈ zT := z_m 1167 rfl rfl
set_option maxRecDepth 100000 in
theorem wm_Law_55 : Cond.methodLink "StreamForgeLaw" 55 y_Mod_init ∈ zT := z_m 1173 rfl rfl
set_option maxRecDepth 100000 in
theorem wm_Law_68 : Cond.methodLink "StreamForgeLaw" 68 y_Mod_thrown ∈ zT := z_m 1410 rfl rfl
set_option maxRecDepth 100000 in
theorem wm_Law_63 : Cond.methodLink "StreamForgeLaw" 63 y_Mod_script ∈ zT := z_m 1414 rfl rfl
set_option maxRecDepth 100000 in
theorem wm_Mod_158 : Cond.methodLink "StreamForgeModel" 158 y_Mod_measure ∈ zT := z_m 1418 rfl rfl
set_option maxRecDepth 100000 in
theorem wm_Mod_154 : Cond.methodLink "StreamForgeModel" 154 y_Mod_in ∈ zT := z_m 1421 rfl rfl
set_option maxRecDepth 100000 in
theorem wm_Mod_162 : Cond.methodLink "StreamForgeModel" 162 y_Mod_fail ∈ zT := z_m 1424 rfl rfl
set_option maxRecDepth 100000 in
theorem wm_Law_67 : Cond.methodLink "StreamForgeLaw" 67 y_Mod_clear ∈ zT := z_m 1428 rfl rfl
set_option maxRecDepth 100000 in
theorem wm_Law_82 : Cond.methodLink "StreamForgeLaw" 82 y_Mod_line ∈ zT := z_m 1432 rfl rfl
set_option maxRecDepth 100000 in
theorem wm_Mod_172 : Cond.methodLink "StreamForgeModel" 172 y_Mod_addTo ∈ zT := z_m 1436 rfl rfl
set_option maxRecDepth 100000 in
theorem wm_Law_85 : Cond.methodLink "StreamForgeLaw" 85 y_Mod_more ∈ zT := z_m 1440 rfl rfl
set_option maxRecDepth 100000 in
theorem wm_Law_74 : Cond.methodLink "StreamForgeLaw" 74 y_Mod_parse ∈ zT := z_m 1444 rfl rfl
set_option maxRecDepth 100000 in
theorem wm_Mod_187 : Cond.methodLink "StreamForgeModel" 187 y_Mod_wrong ∈ zT := z_m 1448 rfl rfl
set_option maxRecDepth 100000 in
theorem wm_Mod_287 : Cond.methodLink "StreamForgeModel" 287 y_Mod_command ∈ zT := z_m 1452 rfl rfl
set_option maxRecDepth 100000 in
theorem wm_Mod_255 : Cond.methodLink "StreamForgeModel" 255 y_Mod_address ∈ zT := z_m 1456 rfl rfl
set_option maxRecDepth 100000 in
theorem wm_Mod_183 : Cond.methodLink "StreamForgeModel" 183 y_Mod_here ∈ zT := z_m 1460 rfl rfl
set_option maxRecDepth 100000 in
theorem wm_Mod_237 : Cond.methodLink "StreamForgeModel" 237 y_Mod_readPattern ∈ zT := z_m 1464 rfl rfl
set_option maxRecDepth 100000 in
theorem wm_Mod_200 : Cond.methodLink "StreamForgeModel" 200 y_Mod_behind ∈ zT := z_m 1468 rfl rfl
set_option maxRecDepth 100000 in
theorem wm_Mod_225 : Cond.methodLink "StreamForgeModel" 225 y_Mod_escaped ∈ zT := z_m 1472 rfl rfl
set_option maxRecDepth 100000 in
theorem wm_Mod_209 : Cond.methodLink "StreamForgeModel" 209 y_Mod_addItem ∈ zT := z_m 1476 rfl rfl
set_option maxRecDepth 100000 in
theorem wm_Mod_228 : Cond.methodLink "StreamForgeModel" 228 y_Mod_set ∈ zT := z_m 1480 rfl rfl
set_option maxRecDepth 100000 in
theorem wm_Mod_213 : Cond.methodLink "StreamForgeModel" 213 y_Mod_isMember ∈ zT := z_m 1484 rfl rfl
set_option maxRecDepth 100000 in
theorem wm_Mod_217 : Cond.methodLink "StreamForgeModel" 217 y_Mod_put ∈ zT := z_m 1488 rfl rfl
set_option maxRecDepth 100000 in
theorem wm_Mod_231 : Cond.methodLink "StreamForgeModel" 231 y_Mod_star ∈ zT := z_m 1493 rfl rfl
set_option maxRecDepth 100000 in
theorem wm_Mod_258 : Cond.methodLink "StreamForgeModel" 258 y_Mod_blanks ∈ zT := z_m 1497 rfl rfl
set_option maxRecDepth 100000 in
theorem wm_Mod_264 : Cond.methodLink "StreamForgeModel" 264 y_Mod_label ∈ zT := z_m 1501 rfl rfl
set_option maxRecDepth 100000 in
theorem wm_Mod_252 : Cond.methodLink "StreamForgeModel" 252 y_Mod_closed ∈ zT := z_m 1505 rfl rfl
set_option maxRecDepth 100000 in
theorem wm_Mod_268 : Cond.methodLink "StreamForgeModel" 268 y_Mod_branch ∈ zT := z_m 1509 rfl rfl
set_option maxRecDepth 100000 in
theorem wm_Mod_271 : Cond.methodLink "StreamForgeModel" 271 y_Mod_substitute ∈ zT := z_m 1513 rfl rfl
set_option maxRecDepth 100000 in
theorem wm_Mod_246 : Cond.methodLink "StreamForgeModel" 246 y_Mod_expect ∈ zT := z_m 1517 rfl rfl
set_option maxRecDepth 100000 in
theorem wm_Mod_249 : Cond.methodLink "StreamForgeModel" 249 y_Mod_replacement ∈ zT := z_m 1521 rfl rfl
set_option maxRecDepth 100000 in
theorem wm_Mod_240 : Cond.methodLink "StreamForgeModel" 240 y_Mod_stored ∈ zT := z_m 1525 rfl rfl
set_option maxRecDepth 100000 in
theorem wm_Mod_243 : Cond.methodLink "StreamForgeModel" 243 y_Mod_keep ∈ zT := z_m 1529 rfl rfl
set_option maxRecDepth 100000 in
theorem wm_Mod_274 : Cond.methodLink "StreamForgeModel" 274 y_Mod_exchange ∈ zT := z_m 1533 rfl rfl
set_option maxRecDepth 100000 in
theorem wm_Mod_277 : Cond.methodLink "StreamForgeModel" 277 y_Mod_readText ∈ zT := z_m 1537 rfl rfl
set_option maxRecDepth 100000 in
theorem wm_Mod_280 : Cond.methodLink "StreamForgeModel" 280 y_Mod_isPlain ∈ zT := z_m 1541 rfl rfl
set_option maxRecDepth 100000 in
theorem wm_Mod_290 : Cond.methodLink "StreamForgeModel" 290 y_Mod_goals ∈ zT := z_m 1544 rfl rfl
set_option maxRecDepth 100000 in
theorem wm_Law_78 : Cond.methodLink "StreamForgeLaw" 78 y_Mod_where ∈ zT := z_m 1548 rfl rfl
set_option maxRecDepth 100000 in
theorem wm_Law_98 : Cond.methodLink "StreamForgeLaw" 98 y_Mod_match ∈ zT := z_m 1552 rfl rfl
set_option maxRecDepth 100000 in
theorem wm_Mod_322 : Cond.methodLink "StreamForgeModel" 322 y_Mod_takeLine ∈ zT := z_m 1556 rfl rfl
set_option maxRecDepth 100000 in
theorem wm_Mod_325 : Cond.methodLink "StreamForgeModel" 325 y_Mod_find ∈ zT := z_m 1560 rfl rfl
set_option maxRecDepth 100000 in
theorem wm_Mod_306 : Cond.methodLink "StreamForgeModel" 306 y_Mod_starsOf ∈ zT := z_m 1564 rfl rfl
set_option maxRecDepth 100000 in
theorem wm_Mod_309 : Cond.methodLink "StreamForgeModel" 309 y_Mod_way ∈ zT := z_m 1568 rfl rfl
set_option maxRecDepth 100000 in
theorem wm_Mod_302 : Cond.methodLink "StreamForgeModel" 302 y_Mod_fits ∈ zT := z_m 1572 rfl rfl
set_option maxRecDepth 100000 in
theorem wm_Law_88 : Cond.methodLink "StreamForgeLaw" 88 y_Mod_run ∈ zT := z_m 1576 rfl rfl
set_option maxRecDepth 100000 in
theorem wm_Mod_384 : Cond.methodLink "StreamForgeModel" 384 y_Mod_readLine ∈ zT := z_m 1580 rfl rfl
set_option maxRecDepth 100000 in
theorem wm_Mod_390 : Cond.methodLink "StreamForgeModel" 390 y_Mod_endCycle ∈ zT := z_m 1584 rfl rfl
set_option maxRecDepth 100000 in
theorem wm_Mod_374 : Cond.methodLink "StreamForgeModel" 374 y_Mod_tellSpace ∈ zT := z_m 1588 rfl rfl
set_option maxRecDepth 100000 in
theorem wm_Mod_340 : Cond.methodLink "StreamForgeModel" 340 y_Mod_tell ∈ zT := z_m 1592 rfl rfl
set_option maxRecDepth 100000 in
theorem wm_Mod_337 : Cond.methodLink "StreamForgeModel" 337 y_Mod_full ∈ zT := z_m 1596 rfl rfl
set_option maxRecDepth 100000 in
theorem wm_Mod_381 : Cond.methodLink "StreamForgeModel" 381 y_Mod_tellAppended ∈ zT := z_m 1600 rfl rfl
set_option maxRecDepth 100000 in
theorem wm_Mod_422 : Cond.methodLink "StreamForgeModel" 422 y_Mod_isDone ∈ zT := z_m 1604 rfl rfl
set_option maxRecDepth 100000 in
theorem wm_Mod_355 : Cond.methodLink "StreamForgeModel" 355 y_Mod_fitsAddress ∈ zT := z_m 1608 rfl rfl
set_option maxRecDepth 100000 in
theorem wm_Mod_349 : Cond.methodLink "StreamForgeModel" 349 y_Mod_takeSpace ∈ zT := z_m 1612 rfl rfl
set_option maxRecDepth 100000 in
theorem wm_Mod_425 : Cond.methodLink "StreamForgeModel" 425 y_Mod_perform ∈ zT := z_m 1616 rfl rfl
set_option maxRecDepth 100000 in
theorem wm_Mod_394 : Cond.methodLink "StreamForgeModel" 394 y_Mod_substituted ∈ zT := z_m 1620 rfl rfl
set_option maxRecDepth 100000 in
theorem wm_Mod_361 : Cond.methodLink "StreamForgeModel" 361 y_Mod_copyOf ∈ zT := z_m 1624 rfl rfl
set_option maxRecDepth 100000 in
theorem wm_Mod_358 : Cond.methodLink "StreamForgeModel" 358 y_Mod_add ∈ zT := z_m 1628 rfl rfl
set_option maxRecDepth 100000 in
theorem wm_Mod_365 : Cond.methodLink "StreamForgeModel" 365 y_Mod_addReplacement ∈ zT := z_m 1632 rfl rfl
set_option maxRecDepth 100000 in
theorem wm_Mod_397 : Cond.methodLink "StreamForgeModel" 397 y_Mod_exchanged ∈ zT := z_m 1636 rfl rfl
set_option maxRecDepth 100000 in
theorem wm_Mod_400 : Cond.methodLink "StreamForgeModel" 400 y_Mod_append ∈ zT := z_m 1640 rfl rfl
set_option maxRecDepth 100000 in
theorem wm_Mod_403 : Cond.methodLink "StreamForgeModel" 403 y_Mod_tellText ∈ zT := z_m 1644 rfl rfl
set_option maxRecDepth 100000 in
theorem wm_Mod_406 : Cond.methodLink "StreamForgeModel" 406 y_Mod_cut ∈ zT := z_m 1648 rfl rfl
set_option maxRecDepth 100000 in
theorem wm_Mod_409 : Cond.methodLink "StreamForgeModel" 409 y_Mod_nextLine ∈ zT := z_m 1652 rfl rfl
set_option maxRecDepth 100000 in
theorem wm_Mod_413 : Cond.methodLink "StreamForgeModel" 413 y_Mod_tellNumber ∈ zT := z_m 1656 rfl rfl
set_option maxRecDepth 100000 in
theorem wm_Mod_416 : Cond.methodLink "StreamForgeModel" 416 y_Mod_holds ∈ zT := z_m 1660 rfl rfl
set_option maxRecDepth 100000 in
theorem wm_Law_91 : Cond.methodLink "StreamForgeLaw" 91 y_Mod_out ∈ zT := z_m 1664 rfl rfl
set_option maxRecDepth 100000 in
theorem wm_Law_94 : Cond.methodLink "StreamForgeLaw" 94 y_Mod_ran ∈ zT := z_m 1668 rfl rfl
set_option maxRecDepth 100000 in
theorem wm_Law_101 : Cond.methodLink "StreamForgeLaw" 101 y_Mod_count ∈ zT := z_m 1672 rfl rfl
set_option maxRecDepth 100000 in
theorem wf_Row_9 : Cond.fieldLink "StreamForge$Row" 9 "StreamForge$Row" "chars" "[C" ∈ zT := z_m 155 rfl rfl
set_option maxRecDepth 100000 in
theorem wf_Cur_24 : Cond.fieldLink "StreamForge$Cursor" 24 "StreamForge$Row" "chars" "[C" ∈ zT := z_m 156 rfl rfl
set_option maxRecDepth 100000 in
theorem wf_Ma_88 : Cond.fieldLink "StreamForge$Matcher" 88 "StreamForge$Row" "chars" "[C" ∈ zT := z_m 157 rfl rfl
set_option maxRecDepth 100000 in
theorem wf_Ed_146 : Cond.fieldLink "StreamForge$Editor" 146 "StreamForge$Row" "chars" "[C" ∈ zT := z_m 158 rfl rfl
set_option maxRecDepth 100000 in
theorem wf_Row_15 : Cond.fieldLink "StreamForge$Row" 15 "StreamForge$Row" "length" "I" ∈ zT := z_m 159 rfl rfl
set_option maxRecDepth 100000 in
theorem wf_Cur_19 : Cond.fieldLink "StreamForge$Cursor" 19 "StreamForge$Row" "length" "I" ∈ zT := z_m 160 rfl rfl
set_option maxRecDepth 100000 in
theorem wf_Ma_42 : Cond.fieldLink "StreamForge$Matcher" 42 "StreamForge$Row" "length" "I" ∈ zT := z_m 161 rfl rfl
set_option maxRecDepth 100000 in
theorem wf_SF_79 : Cond.fieldLink "StreamForge" 79 "StreamForge$Row" "length" "I" ∈ zT := z_m 162 rfl rfl
set_option maxRecDepth 100000 in
theorem wf_Pa_87 : Cond.fieldLink "StreamForge$Parser" 87 "StreamForge$Row" "length" "I" ∈ zT := z_m 163 rfl rfl
set_option maxRecDepth 100000 in
theorem wf_Ed_123 : Cond.fieldLink "StreamForge$Editor" 123 "StreamForge$Row" "length" "I" ∈ zT := z_m 164 rfl rfl
set_option maxRecDepth 100000 in
theorem wf_Cur_15 : Cond.fieldLink "StreamForge$Cursor" 15 "StreamForge$Cursor" "text" "LStreamForge$Row;" ∈ zT := z_m 184 rfl rfl
set_option maxRecDepth 100000 in
theorem wf_Pa_104 : Cond.fieldLink "StreamForge$Parser" 104 "StreamForge$Cursor" "text" "LStreamForge$Row;" ∈ zT := z_m 185 rfl rfl
set_option maxRecDepth 100000 in
theorem wf_Cur_9 : Cond.fieldLink "StreamForge$Cursor" 9 "StreamForge$Cursor" "at" "I" ∈ zT := z_m 186 rfl rfl
set_option maxRecDepth 100000 in
theorem wf_Pa_46 : Cond.fieldLink "StreamForge$Parser" 46 "StreamForge$Cursor" "at" "I" ∈ zT := z_m 187 rfl rfl
set_option maxRecDepth 100000 in
theorem wf_Pr_86 : Cond.fieldLink "StreamForge$PatternReader" 86 "StreamForge$Cursor" "at" "I" ∈ zT := z_m 188 rfl rfl
set_option maxRecDepth 100000 in
theorem wf_Pa_34 : Cond.fieldLink "StreamForge$Parser" 34 "StreamForge$Cursor" "refusedAt" "I" ∈ zT := z_m 189 rfl rfl
set_option maxRecDepth 100000 in
theorem wf_Cur_28 : Cond.fieldLink "StreamForge$Cursor" 28 "StreamForge$Cursor" "refusedAt" "I" ∈ zT := z_m 190 rfl rfl
set_option maxRecDepth 100000 in
theorem wf_Pr_9 : Cond.fieldLink "StreamForge$PatternReader" 9 "StreamForge$PatternReader" "cursor" "LStreamForge$Cursor;" ∈ zT := z_m 204 rfl rfl
set_option maxRecDepth 100000 in
theorem wf_Pr_62 : Cond.fieldLink "StreamForge$PatternReader" 62 "StreamForge$PatternReader" "items" "LStreamForge$Items;" ∈ zT := z_m 205 rfl rfl
set_option maxRecDepth 100000 in
theorem wf_Pr_58 : Cond.fieldLink "StreamForge$PatternReader" 58 "StreamForge$PatternReader" "pattern" "LStreamForge$Pattern;" ∈ zT := z_m 206 rfl rfl
set_option maxRecDepth 100000 in
theorem wf_Pr_89 : Cond.fieldLink "StreamForge$PatternReader" 89 "StreamForge$PatternReader" "itemCount" "I" ∈ zT := z_m 207 rfl rfl
set_option maxRecDepth 100000 in
theorem wf_Pr_92 : Cond.fieldLink "StreamForge$PatternReader" 92 "StreamForge$PatternReader" "starCount" "I" ∈ zT := z_m 208 rfl rfl
set_option maxRecDepth 100000 in
theorem wf_Pr_47 : Cond.fieldLink "StreamForge$PatternReader" 47 "StreamForge$PatternReader" "groupOpen" "Z" ∈ zT := z_m 209 rfl rfl
set_option maxRecDepth 100000 in
theorem wf_Pr_95 : Cond.fieldLink "StreamForge$PatternReader" 95 "StreamForge$PatternReader" "repeatable" "Z" ∈ zT := z_m 210 rfl rfl
set_option maxRecDepth 100000 in
theorem wf_Pa_12 : Cond.fieldLink "StreamForge$Parser" 12 "StreamForge$Parser" "cursor" "LStreamForge$Cursor;" ∈ zT := z_m 226 rfl rfl
set_option maxRecDepth 100000 in
theorem wf_Pa_23 : Cond.fieldLink "StreamForge$Parser" 23 "StreamForge$Parser" "patterns" "LStreamForge$PatternReader;" ∈ zT := z_m 227 rfl rfl
set_option maxRecDepth 100000 in
theorem wf_Pa_27 : Cond.fieldLink "StreamForge$Parser" 27 "StreamForge$Parser" "openBlocks" "[I" ∈ zT := z_m 228 rfl rfl
set_option maxRecDepth 100000 in
theorem wf_Pa_31 : Cond.fieldLink "StreamForge$Parser" 31 "StreamForge$Parser" "behindLabel" "[I" ∈ zT := z_m 229 rfl rfl
set_option maxRecDepth 100000 in
theorem wf_Pa_62 : Cond.fieldLink "StreamForge$Parser" 62 "StreamForge$Parser" "depth" "I" ∈ zT := z_m 230 rfl rfl
set_option maxRecDepth 100000 in
theorem wf_Pa_72 : Cond.fieldLink "StreamForge$Parser" 72 "StreamForge$Parser" "program" "LStreamForge$Program;" ∈ zT := z_m 231 rfl rfl
set_option maxRecDepth 100000 in
theorem wf_Pa_114 : Cond.fieldLink "StreamForge$Parser" 114 "StreamForge$Parser" "command" "LStreamForge$Command;" ∈ zT := z_m 232 rfl rfl
set_option maxRecDepth 100000 in
theorem wf_Ma_55 : Cond.fieldLink "StreamForge$Matcher" 55 "StreamForge$Matcher" "begin" "I" ∈ zT := z_m 263 rfl rfl
set_option maxRecDepth 100000 in
theorem wf_Ed_257 : Cond.fieldLink "StreamForge$Editor" 257 "StreamForge$Matcher" "begin" "I" ∈ zT := z_m 264 rfl rfl
set_option maxRecDepth 100000 in
theorem wf_Ma_58 : Cond.fieldLink "StreamForge$Matcher" 58 "StreamForge$Matcher" "end" "I" ∈ zT := z_m 265 rfl rfl
set_option maxRecDepth 100000 in
theorem wf_Ed_259 : Cond.fieldLink "StreamForge$Editor" 259 "StreamForge$Matcher" "end" "I" ∈ zT := z_m 266 rfl rfl
set_option maxRecDepth 100000 in
theorem wf_Ma_24 : Cond.fieldLink "StreamForge$Matcher" 24 "StreamForge$Matcher" "items" "LStreamForge$Items;" ∈ zT := z_m 267 rfl rfl
set_option maxRecDepth 100000 in
theorem wf_Ma_28 : Cond.fieldLink "StreamForge$Matcher" 28 "StreamForge$Matcher" "pattern" "LStreamForge$Pattern;" ∈ zT := z_m 268 rfl rfl
set_option maxRecDepth 100000 in
theorem wf_Ma_32 : Cond.fieldLink "StreamForge$Matcher" 32 "StreamForge$Matcher" "text" "LStreamForge$Row;" ∈ zT := z_m 269 rfl rfl
set_option maxRecDepth 100000 in
theorem wf_Ma_9 : Cond.fieldLink "StreamForge$Matcher" 9 "StreamForge$Matcher" "groupBegin" "[I" ∈ zT := z_m 270 rfl rfl
set_option maxRecDepth 100000 in
theorem wf_Ma_15 : Cond.fieldLink "StreamForge$Matcher" 15 "StreamForge$Matcher" "groupEnd" "[I" ∈ zT := z_m 271 rfl rfl
set_option maxRecDepth 100000 in
theorem wf_Ma_18 : Cond.fieldLink "StreamForge$Matcher" 18 "StreamForge$Matcher" "triedBegin" "[I" ∈ zT := z_m 272 rfl rfl
set_option maxRecDepth 100000 in
theorem wf_Ma_21 : Cond.fieldLink "StreamForge$Matcher" 21 "StreamForge$Matcher" "triedEnd" "[I" ∈ zT := z_m 273 rfl rfl
set_option maxRecDepth 100000 in
theorem wf_Ed_14 : Cond.fieldLink "StreamForge$Editor" 14 "StreamForge$Editor" "output" "LStreamForge$Row;" ∈ zT := z_m 293 rfl rfl
set_option maxRecDepth 100000 in
theorem wf_SF_106 : Cond.fieldLink "StreamForge" 106 "StreamForge$Editor" "output" "LStreamForge$Row;" ∈ zT := z_m 294 rfl rfl
set_option maxRecDepth 100000 in
theorem wf_Ed_20 : Cond.fieldLink "StreamForge$Editor" 20 "StreamForge$Editor" "space" "LStreamForge$Row;" ∈ zT := z_m 295 rfl rfl
set_option maxRecDepth 100000 in
theorem wf_SF_116 : Cond.fieldLink "StreamForge" 116 "StreamForge$Editor" "space" "LStreamForge$Row;" ∈ zT := z_m 296 rfl rfl
set_option maxRecDepth 100000 in
theorem wf_Ed_23 : Cond.fieldLink "StreamForge$Editor" 23 "StreamForge$Editor" "hold" "LStreamForge$Row;" ∈ zT := z_m 297 rfl rfl
set_option maxRecDepth 100000 in
theorem wf_SF_119 : Cond.fieldLink "StreamForge" 119 "StreamForge$Editor" "hold" "LStreamForge$Row;" ∈ zT := z_m 298 rfl rfl
set_option maxRecDepth 100000 in
theorem wf_Ed_99 : Cond.fieldLink "StreamForge$Editor" 99 "StreamForge$Editor" "linesRead" "I" ∈ zT := z_m 299 rfl rfl
set_option maxRecDepth 100000 in
theorem wf_SF_122 : Cond.fieldLink "StreamForge" 122 "StreamForge$Editor" "linesRead" "I" ∈ zT := z_m 300 rfl rfl
set_option maxRecDepth 100000 in
theorem wf_Ed_70 : Cond.fieldLink "StreamForge$Editor" 70 "StreamForge$Editor" "begun" "I" ∈ zT := z_m 301 rfl rfl
set_option maxRecDepth 100000 in
theorem wf_SF_125 : Cond.fieldLink "StreamForge" 125 "StreamForge$Editor" "begun" "I" ∈ zT := z_m 302 rfl rfl
set_option maxRecDepth 100000 in
theorem wf_Ed_102 : Cond.fieldLink "StreamForge$Editor" 102 "StreamForge$Editor" "cycles" "I" ∈ zT := z_m 303 rfl rfl
set_option maxRecDepth 100000 in
theorem wf_SF_128 : Cond.fieldLink "StreamForge" 128 "StreamForge$Editor" "cycles" "I" ∈ zT := z_m 304 rfl rfl
set_option maxRecDepth 100000 in
theorem wf_Ed_105 : Cond.fieldLink "StreamForge$Editor" 105 "StreamForge$Editor" "replacements" "I" ∈ zT := z_m 305 rfl rfl
set_option maxRecDepth 100000 in
theorem wf_SF_131 : Cond.fieldLink "StreamForge" 131 "StreamForge$Editor" "replacements" "I" ∈ zT := z_m 306 rfl rfl
set_option maxRecDepth 100000 in
theorem wf_Ed_26 : Cond.fieldLink "StreamForge$Editor" 26 "StreamForge$Editor" "appended" "LStreamForge$Row;" ∈ zT := z_m 307 rfl rfl
set_option maxRecDepth 100000 in
theorem wf_Ed_32 : Cond.fieldLink "StreamForge$Editor" 32 "StreamForge$Editor" "matcher" "LStreamForge$Matcher;" ∈ zT := z_m 308 rfl rfl
set_option maxRecDepth 100000 in
theorem wf_Ed_36 : Cond.fieldLink "StreamForge$Editor" 36 "StreamForge$Editor" "draft" "LStreamForge$Row;" ∈ zT := z_m 309 rfl rfl
set_option maxRecDepth 100000 in
theorem wf_Ed_39 : Cond.fieldLink "StreamForge$Editor" 39 "StreamForge$Editor" "program" "LStreamForge$Program;" ∈ zT := z_m 310 rfl rfl
set_option maxRecDepth 100000 in
theorem wf_Ed_43 : Cond.fieldLink "StreamForge$Editor" 43 "StreamForge$Editor" "lines" "[LStreamForge$Row;" ∈ zT := z_m 311 rfl rfl
set_option maxRecDepth 100000 in
theorem wf_Ed_47 : Cond.fieldLink "StreamForge$Editor" 47 "StreamForge$Editor" "lineCount" "I" ∈ zT := z_m 312 rfl rfl
set_option maxRecDepth 100000 in
theorem wf_Ed_58 : Cond.fieldLink "StreamForge$Editor" 58 "StreamForge$Editor" "next" "I" ∈ zT := z_m 313 rfl rfl
set_option maxRecDepth 100000 in
theorem wf_Ed_54 : Cond.fieldLink "StreamForge$Editor" 54 "StreamForge$Editor" "over" "Z" ∈ zT := z_m 314 rfl rfl
set_option maxRecDepth 100000 in
theorem wf_Ed_120 : Cond.fieldLink "StreamForge$Editor" 120 "StreamForge$Editor" "replaced" "Z" ∈ zT := z_m 315 rfl rfl
set_option maxRecDepth 100000 in
theorem wf_Ed_167 : Cond.fieldLink "StreamForge$Editor" 167 "StreamForge$Editor" "rangeEnds" "Z" ∈ zT := z_m 316 rfl rfl
set_option maxRecDepth 100000 in
theorem wf_It_9 : Cond.fieldLink "StreamForge$Items" 9 "StreamForge$Items" "kind" "[I" ∈ zT := z_m 368 rfl rfl
set_option maxRecDepth 100000 in
theorem wf_Ma_100 : Cond.fieldLink "StreamForge$Matcher" 100 "StreamForge$Items" "kind" "[I" ∈ zT := z_m 369 rfl rfl
set_option maxRecDepth 100000 in
theorem wf_It_15 : Cond.fieldLink "StreamForge$Items" 15 "StreamForge$Items" "group" "[I" ∈ zT := z_m 370 rfl rfl
set_option maxRecDepth 100000 in
theorem wf_Ma_97 : Cond.fieldLink "StreamForge$Matcher" 97 "StreamForge$Items" "group" "[I" ∈ zT := z_m 371 rfl rfl
set_option maxRecDepth 100000 in
theorem wf_It_18 : Cond.fieldLink "StreamForge$Items" 18 "StreamForge$Items" "low" "[J" ∈ zT := z_m 372 rfl rfl
set_option maxRecDepth 100000 in
theorem wf_It_22 : Cond.fieldLink "StreamForge$Items" 22 "StreamForge$Items" "high" "[J" ∈ zT := z_m 373 rfl rfl
set_option maxRecDepth 100000 in
theorem wf_It_25 : Cond.fieldLink "StreamForge$Items" 25 "StreamForge$Items" "size" "I" ∈ zT := z_m 374 rfl rfl
set_option maxRecDepth 100000 in
theorem wf_Pr_66 : Cond.fieldLink "StreamForge$PatternReader" 66 "StreamForge$Items" "size" "I" ∈ zT := z_m 375 rfl rfl
set_option maxRecDepth 100000 in
theorem wf_Pa_98 : Cond.fieldLink "StreamForge$Parser" 98 "StreamForge$Items" "size" "I" ∈ zT := z_m 376 rfl rfl
set_option maxRecDepth 100000 in
theorem wf_Ma_36 : Cond.fieldLink "StreamForge$Matcher" 36 "StreamForge$Pattern" "atBeginning" "Z" ∈ zT := z_m 408 rfl rfl
set_option maxRecDepth 100000 in
theorem wf_Pr_83 : Cond.fieldLink "StreamForge$PatternReader" 83 "StreamForge$Pattern" "atBeginning" "Z" ∈ zT := z_m 409 rfl rfl
set_option maxRecDepth 100000 in
theorem wf_Pr_80 : Cond.fieldLink "StreamForge$PatternReader" 80 "StreamForge$Pattern" "atEnd" "Z" ∈ zT := z_m 410 rfl rfl
set_option maxRecDepth 100000 in
theorem wf_Ma_85 : Cond.fieldLink "StreamForge$Matcher" 85 "StreamForge$Pattern" "atEnd" "Z" ∈ zT := z_m 411 rfl rfl
set_option maxRecDepth 100000 in
theorem wf_Pr_72 : Cond.fieldLink "StreamForge$PatternReader" 72 "StreamForge$Pattern" "from" "I" ∈ zT := z_m 412 rfl rfl
set_option maxRecDepth 100000 in
theorem wf_Ma_61 : Cond.fieldLink "StreamForge$Matcher" 61 "StreamForge$Pattern" "from" "I" ∈ zT := z_m 413 rfl rfl
set_option maxRecDepth 100000 in
theorem wf_Pr_98 : Cond.fieldLink "StreamForge$PatternReader" 98 "StreamForge$Pattern" "to" "I" ∈ zT := z_m 414 rfl rfl
set_option maxRecDepth 100000 in
theorem wf_Ma_78 : Cond.fieldLink "StreamForge$Matcher" 78 "StreamForge$Pattern" "to" "I" ∈ zT := z_m 415 rfl rfl
set_option maxRecDepth 100000 in
theorem wf_Pr_101 : Cond.fieldLink "StreamForge$PatternReader" 101 "StreamForge$Pattern" "firstStar" "I" ∈ zT := z_m 416 rfl rfl
set_option maxRecDepth 100000 in
theorem wf_Ma_64 : Cond.fieldLink "StreamForge$Matcher" 64 "StreamForge$Pattern" "firstStar" "I" ∈ zT := z_m 417 rfl rfl
set_option maxRecDepth 100000 in
theorem wf_Pr_104 : Cond.fieldLink "StreamForge$PatternReader" 104 "StreamForge$Pattern" "secondStar" "I" ∈ zT := z_m 418 rfl rfl
set_option maxRecDepth 100000 in
theorem wf_Ma_75 : Cond.fieldLink "StreamForge$Matcher" 75 "StreamForge$Pattern" "secondStar" "I" ∈ zT := z_m 419 rfl rfl
set_option maxRecDepth 100000 in
theorem wf_Pr_77 : Cond.fieldLink "StreamForge$PatternReader" 77 "StreamForge$Pattern" "groups" "I" ∈ zT := z_m 420 rfl rfl
set_option maxRecDepth 100000 in
theorem wf_Ma_52 : Cond.fieldLink "StreamForge$Matcher" 52 "StreamForge$Pattern" "groups" "I" ∈ zT := z_m 421 rfl rfl
set_option maxRecDepth 100000 in
theorem wf_Pa_212 : Cond.fieldLink "StreamForge$Parser" 212 "StreamForge$Pattern" "groups" "I" ∈ zT := z_m 422 rfl rfl
set_option maxRecDepth 100000 in
theorem wf_Addr_10 : Cond.fieldLink "StreamForge$Address" 10 "StreamForge$Address" "pattern" "LStreamForge$Pattern;" ∈ zT := z_m 438 rfl rfl
set_option maxRecDepth 100000 in
theorem wf_Pa_150 : Cond.fieldLink "StreamForge$Parser" 150 "StreamForge$Address" "pattern" "LStreamForge$Pattern;" ∈ zT := z_m 439 rfl rfl
set_option maxRecDepth 100000 in
theorem wf_Ed_183 : Cond.fieldLink "StreamForge$Editor" 183 "StreamForge$Address" "pattern" "LStreamForge$Pattern;" ∈ zT := z_m 440 rfl rfl
set_option maxRecDepth 100000 in
theorem wf_Pa_147 : Cond.fieldLink "StreamForge$Parser" 147 "StreamForge$Address" "kind" "I" ∈ zT := z_m 441 rfl rfl
set_option maxRecDepth 100000 in
theorem wf_Ed_173 : Cond.fieldLink "StreamForge$Editor" 173 "StreamForge$Address" "kind" "I" ∈ zT := z_m 442 rfl rfl
set_option maxRecDepth 100000 in
theorem wf_Pa_158 : Cond.fieldLink "StreamForge$Parser" 158 "StreamForge$Address" "number" "I" ∈ zT := z_m 443 rfl rfl
set_option maxRecDepth 100000 in
theorem wf_Ed_176 : Cond.fieldLink "StreamForge$Editor" 176 "StreamForge$Address" "number" "I" ∈ zT := z_m 444 rfl rfl
set_option maxRecDepth 100000 in
theorem wf_Cmd_12 : Cond.fieldLink "StreamForge$Command" 12 "StreamForge$Command" "first" "LStreamForge$Address;" ∈ zT := z_m 454 rfl rfl
set_option maxRecDepth 100000 in
theorem wf_Pa_124 : Cond.fieldLink "StreamForge$Parser" 124 "StreamForge$Command" "first" "LStreamForge$Address;" ∈ zT := z_m 455 rfl rfl
set_option maxRecDepth 100000 in
theorem wf_Ed_153 : Cond.fieldLink "StreamForge$Editor" 153 "StreamForge$Command" "first" "LStreamForge$Address;" ∈ zT := z_m 456 rfl rfl
set_option maxRecDepth 100000 in
theorem wf_Cmd_18 : Cond.fieldLink "StreamForge$Command" 18 "StreamForge$Command" "second" "LStreamForge$Address;" ∈ zT := z_m 457 rfl rfl
set_option maxRecDepth 100000 in
theorem wf_Pa_135 : Cond.fieldLink "StreamForge$Parser" 135 "StreamForge$Command" "second" "LStreamForge$Address;" ∈ zT := z_m 458 rfl rfl
set_option maxRecDepth 100000 in
theorem wf_Ed_161 : Cond.fieldLink "StreamForge$Editor" 161 "StreamForge$Command" "second" "LStreamForge$Address;" ∈ zT := z_m 459 rfl rfl
set_option maxRecDepth 100000 in
theorem wf_Cmd_24 : Cond.fieldLink "StreamForge$Command" 24 "StreamForge$Command" "pattern" "LStreamForge$Pattern;" ∈ zT := z_m 460 rfl rfl
set_option maxRecDepth 100000 in
theorem wf_SF_147 : Cond.fieldLink "StreamForge" 147 "StreamForge$Command" "pattern" "LStreamForge$Pattern;" ∈ zT := z_m 461 rfl rfl
set_option maxRecDepth 100000 in
theorem wf_Pa_202 : Cond.fieldLink "StreamForge$Parser" 202 "StreamForge$Command" "pattern" "LStreamForge$Pattern;" ∈ zT := z_m 462 rfl rfl
set_option maxRecDepth 100000 in
theorem wf_Ed_256 : Cond.fieldLink "StreamForge$Editor" 256 "StreamForge$Command" "pattern" "LStreamForge$Pattern;" ∈ zT := z_m 463 rfl rfl
set_option maxRecDepth 100000 in
theorem wf_Ed_88 : Cond.fieldLink "StreamForge$Editor" 88 "StreamForge$Command" "kind" "I" ∈ zT := z_m 464 rfl rfl
set_option maxRecDepth 100000 in
theorem wf_Pa_161 : Cond.fieldLink "StreamForge$Parser" 161 "StreamForge$Command" "kind" "I" ∈ zT := z_m 465 rfl rfl
set_option maxRecDepth 100000 in
theorem wf_SF_138 : Cond.fieldLink "StreamForge" 138 "StreamForge$Command" "kind" "I" ∈ zT := z_m 466 rfl rfl
set_option maxRecDepth 100000 in
theorem wf_Pa_162 : Cond.fieldLink "StreamForge$Parser" 162 "StreamForge$Command" "at" "I" ∈ zT := z_m 467 rfl rfl
set_option maxRecDepth 100000 in
theorem wf_Cmd_28 : Cond.fieldLink "StreamForge$Command" 28 "StreamForge$Command" "addresses" "I" ∈ zT := z_m 468 rfl rfl
set_option maxRecDepth 100000 in
theorem wf_Pa_132 : Cond.fieldLink "StreamForge$Parser" 132 "StreamForge$Command" "addresses" "I" ∈ zT := z_m 469 rfl rfl
set_option maxRecDepth 100000 in
theorem wf_Ed_150 : Cond.fieldLink "StreamForge$Editor" 150 "StreamForge$Command" "addresses" "I" ∈ zT := z_m 470 rfl rfl
set_option maxRecDepth 100000 in
theorem wf_Cmd_32 : Cond.fieldLink "StreamForge$Command" 32 "StreamForge$Command" "inverted" "Z" ∈ zT := z_m 471 rfl rfl
set_option maxRecDepth 100000 in
theorem wf_Pa_141 : Cond.fieldLink "StreamForge$Parser" 141 "StreamForge$Command" "inverted" "Z" ∈ zT := z_m 472 rfl rfl
set_option maxRecDepth 100000 in
theorem wf_Ed_170 : Cond.fieldLink "StreamForge$Editor" 170 "StreamForge$Command" "inverted" "Z" ∈ zT := z_m 473 rfl rfl
set_option maxRecDepth 100000 in
theorem wf_Ed_93 : Cond.fieldLink "StreamForge$Editor" 93 "StreamForge$Command" "target" "I" ∈ zT := z_m 474 rfl rfl
set_option maxRecDepth 100000 in
theorem wf_Pa_109 : Cond.fieldLink "StreamForge$Parser" 109 "StreamForge$Command" "target" "I" ∈ zT := z_m 475 rfl rfl
set_option maxRecDepth 100000 in
theorem wf_Cmd_36 : Cond.fieldLink "StreamForge$Command" 36 "StreamForge$Command" "label" "I" ∈ zT := z_m 476 rfl rfl
set_option maxRecDepth 100000 in
theorem wf_Pa_187 : Cond.fieldLink "StreamForge$Parser" 187 "StreamForge$Command" "label" "I" ∈ zT := z_m 477 rfl rfl
set_option maxRecDepth 100000 in
theorem wf_Ed_206 : Cond.fieldLink "StreamForge$Editor" 206 "StreamForge$Command" "textFrom" "I" ∈ zT := z_m 478 rfl rfl
set_option maxRecDepth 100000 in
theorem wf_Pa_193 : Cond.fieldLink "StreamForge$Parser" 193 "StreamForge$Command" "textFrom" "I" ∈ zT := z_m 479 rfl rfl
set_option maxRecDepth 100000 in
theorem wf_Ed_209 : Cond.fieldLink "StreamForge$Editor" 209 "StreamForge$Command" "textTo" "I" ∈ zT := z_m 480 rfl rfl
set_option maxRecDepth 100000 in
theorem wf_Pa_199 : Cond.fieldLink "StreamForge$Parser" 199 "StreamForge$Command" "textTo" "I" ∈ zT := z_m 481 rfl rfl
set_option maxRecDepth 100000 in
theorem wf_Pa_232 : Cond.fieldLink "StreamForge$Parser" 232 "StreamForge$Command" "counterpart" "I" ∈ zT := z_m 482 rfl rfl
set_option maxRecDepth 100000 in
theorem wf_Ed_250 : Cond.fieldLink "StreamForge$Editor" 250 "StreamForge$Command" "counterpart" "I" ∈ zT := z_m 483 rfl rfl
set_option maxRecDepth 100000 in
theorem wf_Cmd_39 : Cond.fieldLink "StreamForge$Command" 39 "StreamForge$Command" "all" "Z" ∈ zT := z_m 484 rfl rfl
set_option maxRecDepth 100000 in
theorem wf_Pa_217 : Cond.fieldLink "StreamForge$Parser" 217 "StreamForge$Command" "all" "Z" ∈ zT := z_m 485 rfl rfl
set_option maxRecDepth 100000 in
theorem wf_Ed_253 : Cond.fieldLink "StreamForge$Editor" 253 "StreamForge$Command" "all" "Z" ∈ zT := z_m 486 rfl rfl
set_option maxRecDepth 100000 in
theorem wf_Cmd_42 : Cond.fieldLink "StreamForge$Command" 42 "StreamForge$Command" "print" "Z" ∈ zT := z_m 487 rfl rfl
set_option maxRecDepth 100000 in
theorem wf_Pa_220 : Cond.fieldLink "StreamForge$Parser" 220 "StreamForge$Command" "print" "Z" ∈ zT := z_m 488 rfl rfl
set_option maxRecDepth 100000 in
theorem wf_Ed_276 : Cond.fieldLink "StreamForge$Editor" 276 "StreamForge$Command" "print" "Z" ∈ zT := z_m 489 rfl rfl
set_option maxRecDepth 100000 in
theorem wf_Cmd_45 : Cond.fieldLink "StreamForge$Command" 45 "StreamForge$Command" "digit" "I" ∈ zT := z_m 490 rfl rfl
set_option maxRecDepth 100000 in
theorem wf_Pa_223 : Cond.fieldLink "StreamForge$Parser" 223 "StreamForge$Command" "digit" "I" ∈ zT := z_m 491 rfl rfl
set_option maxRecDepth 100000 in
theorem wf_Ed_108 : Cond.fieldLink "StreamForge$Editor" 108 "StreamForge$Command" "inRange" "Z" ∈ zT := z_m 492 rfl rfl
set_option maxRecDepth 100000 in
theorem wf_Prog_14 : Cond.fieldLink "StreamForge$Program" 14 "StreamForge$Program" "text" "LStreamForge$Row;" ∈ zT := z_m 526 rfl rfl
set_option maxRecDepth 100000 in
theorem wf_Pa_76 : Cond.fieldLink "StreamForge$Parser" 76 "StreamForge$Program" "text" "LStreamForge$Row;" ∈ zT := z_m 527 rfl rfl
set_option maxRecDepth 100000 in
theorem wf_Ed_203 : Cond.fieldLink "StreamForge$Editor" 203 "StreamForge$Program" "text" "LStreamForge$Row;" ∈ zT := z_m 528 rfl rfl
set_option maxRecDepth 100000 in
theorem wf_Prog_23 : Cond.fieldLink "StreamForge$Program" 23 "StreamForge$Program" "items" "LStreamForge$Items;" ∈ zT := z_m 529 rfl rfl
set_option maxRecDepth 100000 in
theorem wf_Pa_94 : Cond.fieldLink "StreamForge$Parser" 94 "StreamForge$Program" "items" "LStreamForge$Items;" ∈ zT := z_m 530 rfl rfl
set_option maxRecDepth 100000 in
theorem wf_SF_143 : Cond.fieldLink "StreamForge" 143 "StreamForge$Program" "items" "LStreamForge$Items;" ∈ zT := z_m 531 rfl rfl
set_option maxRecDepth 100000 in
theorem wf_Ed_179 : Cond.fieldLink "StreamForge$Editor" 179 "StreamForge$Program" "items" "LStreamForge$Items;" ∈ zT := z_m 532 rfl rfl
set_option maxRecDepth 100000 in
theorem wf_Prog_29 : Cond.fieldLink "StreamForge$Program" 29 "StreamForge$Program" "commands" "[LStreamForge$Command;" ∈ zT := z_m 533 rfl rfl
set_option maxRecDepth 100000 in
theorem wf_Ed_76 : Cond.fieldLink "StreamForge$Editor" 76 "StreamForge$Program" "commands" "[LStreamForge$Command;" ∈ zT := z_m 534 rfl rfl
set_option maxRecDepth 100000 in
theorem wf_Pa_105 : Cond.fieldLink "StreamForge$Parser" 105 "StreamForge$Program" "commands" "[LStreamForge$Command;" ∈ zT := z_m 535 rfl rfl
set_option maxRecDepth 100000 in
theorem wf_SF_134 : Cond.fieldLink "StreamForge" 134 "StreamForge$Program" "commands" "[LStreamForge$Command;" ∈ zT := z_m 536 rfl rfl
set_option maxRecDepth 100000 in
theorem wf_Ed_61 : Cond.fieldLink "StreamForge$Editor" 61 "StreamForge$Program" "size" "I" ∈ zT := z_m 537 rfl rfl
set_option maxRecDepth 100000 in
theorem wf_Pa_103 : Cond.fieldLink "StreamForge$Parser" 103 "StreamForge$Program" "size" "I" ∈ zT := z_m 538 rfl rfl
set_option maxRecDepth 100000 in
theorem wf_SF_99 : Cond.fieldLink "StreamForge" 99 "StreamForge$Program" "size" "I" ∈ zT := z_m 539 rfl rfl
set_option maxRecDepth 100000 in
theorem wf_SF_14 : Cond.fieldLink "StreamForge" 14 "StreamForge" "script" "LStreamForge$Row;" ∈ zT := z_m 549 rfl rfl
set_option maxRecDepth 100000 in
theorem wf_SF_18 : Cond.fieldLink "StreamForge" 18 "StreamForge" "lines" "[LStreamForge$Row;" ∈ zT := z_m 550 rfl rfl
set_option maxRecDepth 100000 in
theorem wf_SF_25 : Cond.fieldLink "StreamForge" 25 "StreamForge" "parser" "LStreamForge$Parser;" ∈ zT := z_m 551 rfl rfl
set_option maxRecDepth 100000 in
theorem wf_SF_32 : Cond.fieldLink "StreamForge" 32 "StreamForge" "editor" "LStreamForge$Editor;" ∈ zT := z_m 552 rfl rfl
set_option maxRecDepth 100000 in
theorem wf_SF_39 : Cond.fieldLink "StreamForge" 39 "StreamForge" "matcher" "LStreamForge$Matcher;" ∈ zT := z_m 553 rfl rfl
set_option maxRecDepth 100000 in
theorem wf_SF_85 : Cond.fieldLink "StreamForge" 85 "StreamForge" "lineCount" "I" ∈ zT := z_m 554 rfl rfl
set_option maxRecDepth 100000 in
theorem wf_SF_46 : Cond.fieldLink "StreamForge" 46 "StreamForge" "program" "LStreamForge$Program;" ∈ zT := z_m 555 rfl rfl
set_option maxRecDepth 100000 in
theorem wf_SF_50 : Cond.fieldLink "StreamForge" 50 "StreamForge" "spare" "LStreamForge$Program;" ∈ zT := z_m 556 rfl rfl
set_option maxRecDepth 100000 in
theorem wf_SF_95 : Cond.fieldLink "StreamForge" 95 "StreamForge" "parsed" "Z" ∈ zT := z_m 557 rfl rfl
set_option maxRecDepth 100000 in
theorem wf_SF_53 : Cond.fieldLink "StreamForge" 53 "StreamForge" "refusedAt" "I" ∈ zT := z_m 558 rfl rfl
set_option maxRecDepth 100000 in
theorem wf_Mod_7 : Cond.fieldLink "StreamForgeModel" 7 "StreamForgeModel" "text" "[I" ∈ zT := z_m 1177 rfl rfl
set_option maxRecDepth 100000 in
theorem wf_Mod_13 : Cond.fieldLink "StreamForgeModel" 13 "StreamForgeModel" "lineLength" "[I" ∈ zT := z_m 1178 rfl rfl
set_option maxRecDepth 100000 in
theorem wf_Mod_16 : Cond.fieldLink "StreamForgeModel" 16 "StreamForgeModel" "lines" "[I" ∈ zT := z_m 1179 rfl rfl
set_option maxRecDepth 100000 in
theorem wf_Mod_166 : Cond.fieldLink "StreamForgeModel" 166 "StreamForgeModel" "length" "I" ∈ zT := z_m 1180 rfl rfl
set_option maxRecDepth 100000 in
theorem wf_Mod_169 : Cond.fieldLink "StreamForgeModel" 169 "StreamForgeModel" "lineMany" "I" ∈ zT := z_m 1181 rfl rfl
set_option maxRecDepth 100000 in
theorem wf_Mod_19 : Cond.fieldLink "StreamForgeModel" 19 "StreamForgeModel" "where" "I" ∈ zT := z_m 1182 rfl rfl
set_option maxRecDepth 100000 in
theorem wf_Mod_151 : Cond.fieldLink "StreamForgeModel" 151 "StreamForgeModel" "thrown" "I" ∈ zT := z_m 1183 rfl rfl
set_option maxRecDepth 100000 in
theorem wf_Mod_284 : Cond.fieldLink "StreamForgeModel" 284 "StreamForgeModel" "live" "I" ∈ zT := z_m 1184 rfl rfl
set_option maxRecDepth 100000 in
theorem wf_Mod_293 : Cond.fieldLink "StreamForgeModel" 293 "StreamForgeModel" "parsed" "Z" ∈ zT := z_m 1185 rfl rfl
set_option maxRecDepth 100000 in
theorem wf_Mod_23 : Cond.fieldLink "StreamForgeModel" 23 "StreamForgeModel" "name" "[I" ∈ zT := z_m 1186 rfl rfl
set_option maxRecDepth 100000 in
theorem wf_Mod_26 : Cond.fieldLink "StreamForgeModel" 26 "StreamForgeModel" "one" "[I" ∈ zT := z_m 1187 rfl rfl
set_option maxRecDepth 100000 in
theorem wf_Mod_29 : Cond.fieldLink "StreamForgeModel" 29 "StreamForgeModel" "oneValue" "[I" ∈ zT := z_m 1188 rfl rfl
set_option maxRecDepth 100000 in
theorem wf_Mod_32 : Cond.fieldLink "StreamForgeModel" 32 "StreamForgeModel" "two" "[I" ∈ zT := z_m 1189 rfl rfl
set_option maxRecDepth 100000 in
theorem wf_Mod_35 : Cond.fieldLink "StreamForgeModel" 35 "StreamForgeModel" "twoValue" "[I" ∈ zT := z_m 1190 rfl rfl
set_option maxRecDepth 100000 in
theorem wf_Mod_38 : Cond.fieldLink "StreamForgeModel" 38 "StreamForgeModel" "pattern" "[I" ∈ zT := z_m 1191 rfl rfl
set_option maxRecDepth 100000 in
theorem wf_Mod_41 : Cond.fieldLink "StreamForgeModel" 41 "StreamForgeModel" "from" "[I" ∈ zT := z_m 1192 rfl rfl
set_option maxRecDepth 100000 in
theorem wf_Mod_44 : Cond.fieldLink "StreamForgeModel" 44 "StreamForgeModel" "to" "[I" ∈ zT := z_m 1193 rfl rfl
set_option maxRecDepth 100000 in
theorem wf_Mod_47 : Cond.fieldLink "StreamForgeModel" 47 "StreamForgeModel" "more" "[I" ∈ zT := z_m 1194 rfl rfl
set_option maxRecDepth 100000 in
theorem wf_Mod_50 : Cond.fieldLink "StreamForgeModel" 50 "StreamForgeModel" "goal" "[I" ∈ zT := z_m 1195 rfl rfl
set_option maxRecDepth 100000 in
theorem wf_Mod_53 : Cond.fieldLink "StreamForgeModel" 53 "StreamForgeModel" "which" "[I" ∈ zT := z_m 1196 rfl rfl
set_option maxRecDepth 100000 in
theorem wf_Mod_56 : Cond.fieldLink "StreamForgeModel" 56 "StreamForgeModel" "placeOf" "[I" ∈ zT := z_m 1197 rfl rfl
set_option maxRecDepth 100000 in
theorem wf_Mod_59 : Cond.fieldLink "StreamForgeModel" 59 "StreamForgeModel" "not" "[Z" ∈ zT := z_m 1198 rfl rfl
set_option maxRecDepth 100000 in
theorem wf_Mod_63 : Cond.fieldLink "StreamForgeModel" 63 "StreamForgeModel" "all" "[Z" ∈ zT := z_m 1199 rfl rfl
set_option maxRecDepth 100000 in
theorem wf_Mod_66 : Cond.fieldLink "StreamForgeModel" 66 "StreamForgeModel" "tells" "[Z" ∈ zT := z_m 1200 rfl rfl
set_option maxRecDepth 100000 in
theorem wf_Mod_69 : Cond.fieldLink "StreamForgeModel" 69 "StreamForgeModel" "commands" "[I" ∈ zT := z_m 1201 rfl rfl
set_option maxRecDepth 100000 in
theorem wf_Mod_72 : Cond.fieldLink "StreamForgeModel" 72 "StreamForgeModel" "patterns" "[I" ∈ zT := z_m 1202 rfl rfl
set_option maxRecDepth 100000 in
theorem wf_Mod_75 : Cond.fieldLink "StreamForgeModel" 75 "StreamForgeModel" "items" "[I" ∈ zT := z_m 1203 rfl rfl
set_option maxRecDepth 100000 in
theorem wf_Mod_78 : Cond.fieldLink "StreamForgeModel" 78 "StreamForgeModel" "chars" "[I" ∈ zT := z_m 1204 rfl rfl
set_option maxRecDepth 100000 in
theorem wf_Mod_81 : Cond.fieldLink "StreamForgeModel" 81 "StreamForgeModel" "itemFrom" "[I" ∈ zT := z_m 1205 rfl rfl
set_option maxRecDepth 100000 in
theorem wf_Mod_84 : Cond.fieldLink "StreamForgeModel" 84 "StreamForgeModel" "itemEnd" "[I" ∈ zT := z_m 1206 rfl rfl
set_option maxRecDepth 100000 in
theorem wf_Mod_87 : Cond.fieldLink "StreamForgeModel" 87 "StreamForgeModel" "groups" "[I" ∈ zT := z_m 1207 rfl rfl
set_option maxRecDepth 100000 in
theorem wf_Mod_90 : Cond.fieldLink "StreamForgeModel" 90 "StreamForgeModel" "item" "[I" ∈ zT := z_m 1208 rfl rfl
set_option maxRecDepth 100000 in
theorem wf_Mod_93 : Cond.fieldLink "StreamForgeModel" 93 "StreamForgeModel" "value" "[I" ∈ zT := z_m 1209 rfl rfl
set_option maxRecDepth 100000 in
theorem wf_Mod_96 : Cond.fieldLink "StreamForgeModel" 96 "StreamForgeModel" "store" "[I" ∈ zT := z_m 1210 rfl rfl
set_option maxRecDepth 100000 in
theorem wf_Mod_99 : Cond.fieldLink "StreamForgeModel" 99 "StreamForgeModel" "starred" "[Z" ∈ zT := z_m 1211 rfl rfl
set_option maxRecDepth 100000 in
theorem wf_Mod_102 : Cond.fieldLink "StreamForgeModel" 102 "StreamForgeModel" "atBegin" "[Z" ∈ zT := z_m 1212 rfl rfl
set_option maxRecDepth 100000 in
theorem wf_Mod_105 : Cond.fieldLink "StreamForgeModel" 105 "StreamForgeModel" "atEnd" "[Z" ∈ zT := z_m 1213 rfl rfl
set_option maxRecDepth 100000 in
theorem wf_Mod_108 : Cond.fieldLink "StreamForgeModel" 108 "StreamForgeModel" "low" "[J" ∈ zT := z_m 1214 rfl rfl
set_option maxRecDepth 100000 in
theorem wf_Mod_112 : Cond.fieldLink "StreamForgeModel" 112 "StreamForgeModel" "high" "[J" ∈ zT := z_m 1215 rfl rfl
set_option maxRecDepth 100000 in
theorem wf_Mod_115 : Cond.fieldLink "StreamForgeModel" 115 "StreamForgeModel" "labels" "[I" ∈ zT := z_m 1216 rfl rfl
set_option maxRecDepth 100000 in
theorem wf_Mod_118 : Cond.fieldLink "StreamForgeModel" 118 "StreamForgeModel" "open" "[I" ∈ zT := z_m 1217 rfl rfl
set_option maxRecDepth 100000 in
theorem wf_Mod_176 : Cond.fieldLink "StreamForgeModel" 176 "StreamForgeModel" "at" "I" ∈ zT := z_m 1218 rfl rfl
set_option maxRecDepth 100000 in
theorem wf_Mod_191 : Cond.fieldLink "StreamForgeModel" 191 "StreamForgeModel" "half" "I" ∈ zT := z_m 1219 rfl rfl
set_option maxRecDepth 100000 in
theorem wf_Mod_261 : Cond.fieldLink "StreamForgeModel" 261 "StreamForgeModel" "deep" "I" ∈ zT := z_m 1220 rfl rfl
set_option maxRecDepth 100000 in
theorem wf_Mod_206 : Cond.fieldLink "StreamForgeModel" 206 "StreamForgeModel" "group" "I" ∈ zT := z_m 1221 rfl rfl
set_option maxRecDepth 100000 in
theorem wf_Mod_222 : Cond.fieldLink "StreamForgeModel" 222 "StreamForgeModel" "stars" "I" ∈ zT := z_m 1222 rfl rfl
set_option maxRecDepth 100000 in
theorem wf_Mod_194 : Cond.fieldLink "StreamForgeModel" 194 "StreamForgeModel" "counted" "I" ∈ zT := z_m 1223 rfl rfl
set_option maxRecDepth 100000 in
theorem wf_Mod_234 : Cond.fieldLink "StreamForgeModel" 234 "StreamForgeModel" "number" "I" ∈ zT := z_m 1224 rfl rfl
set_option maxRecDepth 100000 in
theorem wf_Mod_179 : Cond.fieldLink "StreamForgeModel" 179 "StreamForgeModel" "bad" "Z" ∈ zT := z_m 1225 rfl rfl
set_option maxRecDepth 100000 in
theorem wf_Mod_203 : Cond.fieldLink "StreamForgeModel" 203 "StreamForgeModel" "inGroup" "Z" ∈ zT := z_m 1226 rfl rfl
set_option maxRecDepth 100000 in
theorem wf_Mod_197 : Cond.fieldLink "StreamForgeModel" 197 "StreamForgeModel" "may" "Z" ∈ zT := z_m 1227 rfl rfl
set_option maxRecDepth 100000 in
theorem wf_Mod_121 : Cond.fieldLink "StreamForgeModel" 121 "StreamForgeModel" "subject" "[I" ∈ zT := z_m 1228 rfl rfl
set_option maxRecDepth 100000 in
theorem wf_Mod_124 : Cond.fieldLink "StreamForgeModel" 124 "StreamForgeModel" "groupFrom" "[I" ∈ zT := z_m 1229 rfl rfl
set_option maxRecDepth 100000 in
theorem wf_Mod_127 : Cond.fieldLink "StreamForgeModel" 127 "StreamForgeModel" "groupLong" "[I" ∈ zT := z_m 1230 rfl rfl
set_option maxRecDepth 100000 in
theorem wf_Mod_299 : Cond.fieldLink "StreamForgeModel" 299 "StreamForgeModel" "subjectLong" "I" ∈ zT := z_m 1231 rfl rfl
set_option maxRecDepth 100000 in
theorem wf_Mod_296 : Cond.fieldLink "StreamForgeModel" 296 "StreamForgeModel" "stuck" "I" ∈ zT := z_m 1232 rfl rfl
set_option maxRecDepth 100000 in
theorem wf_Mod_313 : Cond.fieldLink "StreamForgeModel" 313 "StreamForgeModel" "foundAt" "I" ∈ zT := z_m 1233 rfl rfl
set_option maxRecDepth 100000 in
theorem wf_Mod_316 : Cond.fieldLink "StreamForgeModel" 316 "StreamForgeModel" "foundEnd" "I" ∈ zT := z_m 1234 rfl rfl
set_option maxRecDepth 100000 in
theorem wf_Mod_130 : Cond.fieldLink "StreamForgeModel" 130 "StreamForgeModel" "space" "[I" ∈ zT := z_m 1235 rfl rfl
set_option maxRecDepth 100000 in
theorem wf_Mod_133 : Cond.fieldLink "StreamForgeModel" 133 "StreamForgeModel" "hold" "[I" ∈ zT := z_m 1236 rfl rfl
set_option maxRecDepth 100000 in
theorem wf_Mod_136 : Cond.fieldLink "StreamForgeModel" 136 "StreamForgeModel" "work" "[I" ∈ zT := z_m 1237 rfl rfl
set_option maxRecDepth 100000 in
theorem wf_Mod_139 : Cond.fieldLink "StreamForgeModel" 139 "StreamForgeModel" "appended" "[I" ∈ zT := z_m 1238 rfl rfl
set_option maxRecDepth 100000 in
theorem wf_Mod_142 : Cond.fieldLink "StreamForgeModel" 142 "StreamForgeModel" "out" "[I" ∈ zT := z_m 1239 rfl rfl
set_option maxRecDepth 100000 in
theorem wf_Mod_145 : Cond.fieldLink "StreamForgeModel" 145 "StreamForgeModel" "began" "[I" ∈ zT := z_m 1240 rfl rfl
set_option maxRecDepth 100000 in
theorem wf_Mod_148 : Cond.fieldLink "StreamForgeModel" 148 "StreamForgeModel" "active" "[Z" ∈ zT := z_m 1241 rfl rfl
set_option maxRecDepth 100000 in
theorem wf_Mod_319 : Cond.fieldLink "StreamForgeModel" 319 "StreamForgeModel" "spaceLong" "I" ∈ zT := z_m 1242 rfl rfl
set_option maxRecDepth 100000 in
theorem wf_Mod_378 : Cond.fieldLink "StreamForgeModel" 378 "StreamForgeModel" "holdLong" "I" ∈ zT := z_m 1243 rfl rfl
set_option maxRecDepth 100000 in
theorem wf_Mod_334 : Cond.fieldLink "StreamForgeModel" 334 "StreamForgeModel" "workLong" "I" ∈ zT := z_m 1244 rfl rfl
set_option maxRecDepth 100000 in
theorem wf_Mod_343 : Cond.fieldLink "StreamForgeModel" 343 "StreamForgeModel" "appendedLong" "I" ∈ zT := z_m 1245 rfl rfl
set_option maxRecDepth 100000 in
theorem wf_Mod_331 : Cond.fieldLink "StreamForgeModel" 331 "StreamForgeModel" "outLong" "I" ∈ zT := z_m 1246 rfl rfl
set_option maxRecDepth 100000 in
theorem wf_Mod_346 : Cond.fieldLink "StreamForgeModel" 346 "StreamForgeModel" "read" "I" ∈ zT := z_m 1247 rfl rfl
set_option maxRecDepth 100000 in
theorem wf_Mod_419 : Cond.fieldLink "StreamForgeModel" 419 "StreamForgeModel" "begun" "I" ∈ zT := z_m 1248 rfl rfl
set_option maxRecDepth 100000 in
theorem wf_Mod_387 : Cond.fieldLink "StreamForgeModel" 387 "StreamForgeModel" "cycles" "I" ∈ zT := z_m 1249 rfl rfl
set_option maxRecDepth 100000 in
theorem wf_Mod_368 : Cond.fieldLink "StreamForgeModel" 368 "StreamForgeModel" "replaced" "I" ∈ zT := z_m 1250 rfl rfl
set_option maxRecDepth 100000 in
theorem wf_Mod_371 : Cond.fieldLink "StreamForgeModel" 371 "StreamForgeModel" "some" "Z" ∈ zT := z_m 1251 rfl rfl
set_option maxRecDepth 100000 in
theorem wf_Mod_352 : Cond.fieldLink "StreamForgeModel" 352 "StreamForgeModel" "ended" "Z" ∈ zT := z_m 1252 rfl rfl
set_option maxRecDepth 100000 in
theorem wf_Mod_328 : Cond.fieldLink "StreamForgeModel" 328 "StreamForgeModel" "over" "Z" ∈ zT := z_m 1253 rfl rfl
set_option maxRecDepth 100000 in
theorem wc_It_29 : Cond.constantLong "StreamForge$Items" 29 (-1) ∈ zT := z_m 815 rfl rfl
set_option maxRecDepth 100000 in
theorem wc_Mod_220 : Cond.constantLong "StreamForgeModel" 220 (-1) ∈ zT := z_m 1492 rfl rfl
set_option maxRecDepth 100000 in
theorem wc_Law_56 : Cond.constantLong "StreamForgeLaw" 56 (4294967295) ∈ zT := z_m 1676 rfl rfl
set_option maxRecDepth 100000 in
theorem wmax_Cmd_48 : Cond.methodLink "StreamForge$Command" 48 Lib.Math.max.name ∈ zT := z_m 1058 rfl rfl
set_option maxRecDepth 100000 in
theorem wmax_s : Cond.static Lib.Math.max.name ∈ zT := z_m 1059 rfl rfl
set_option maxRecDepth 100000 in
theorem wmax_i : Cond.initialized "java/lang/Math" ∈ zT := z_m 140 rfl rfl
set_option maxRecDepth 100000 in
theorem wmax_c : Cond.code Lib.Math.max.name Lib.Math.max.code 2 (some .int) ∈ zT := z_m 1060 rfl rfl
