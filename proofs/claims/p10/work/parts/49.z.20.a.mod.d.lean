theorem d_Mod_thrown_0 : decode prog_14_method_2_code 0 = .ok (.aload_n 0, 1) := by decide +kernel
theorem d_Mod_thrown_1 : decode prog_14_method_2_code 1 = .ok (.getfield 151, 3) := by decide +kernel
theorem d_Mod_thrown_4 : decode prog_14_method_2_code 4 = .ok (.ireturn, 1) := by decide +kernel
theorem d_Mod_in_0 : decode prog_14_method_3_code 0 = .ok (.iload_n 0, 1) := by decide +kernel
theorem d_Mod_in_1 : decode prog_14_method_3_code 1 = .ok (.iload_n 1, 1) := by decide +kernel
theorem d_Mod_in_2 : decode prog_14_method_3_code 2 = .ok (.if_icmp .lt 12, 3) := by decide +kernel
theorem d_Mod_in_5 : decode prog_14_method_3_code 5 = .ok (.iload_n 0, 1) := by decide +kernel
theorem d_Mod_in_6 : decode prog_14_method_3_code 6 = .ok (.iload_n 2, 1) := by decide +kernel
theorem d_Mod_in_7 : decode prog_14_method_3_code 7 = .ok (.if_icmp .gt 7, 3) := by decide +kernel
theorem d_Mod_in_10 : decode prog_14_method_3_code 10 = .ok (.iconst 1, 1) := by decide +kernel
theorem d_Mod_in_11 : decode prog_14_method_3_code 11 = .ok (.goto 4, 3) := by decide +kernel
theorem d_Mod_in_14 : decode prog_14_method_3_code 14 = .ok (.iconst 0, 1) := by decide +kernel
theorem d_Mod_in_15 : decode prog_14_method_3_code 15 = .ok (.ireturn, 1) := by decide +kernel
theorem d_Mod_fail_0 : decode prog_14_method_4_code 0 = .ok (.aload_n 0, 1) := by decide +kernel
theorem d_Mod_fail_1 : decode prog_14_method_4_code 1 = .ok (.iload_n 1, 1) := by decide +kernel
theorem d_Mod_fail_2 : decode prog_14_method_4_code 2 = .ok (.putfield 151, 3) := by decide +kernel
theorem d_Mod_fail_5 : decode prog_14_method_4_code 5 = .ok (.iconst 0, 1) := by decide +kernel
theorem d_Mod_fail_6 : decode prog_14_method_4_code 6 = .ok (.ireturn, 1) := by decide +kernel
theorem d_Mod_measure_0 : decode prog_14_method_5_code 0 = .ok (.iconst 0, 1) := by decide +kernel
theorem d_Mod_measure_1 : decode prog_14_method_5_code 1 = .ok (.istore_n 3, 1) := by decide +kernel
theorem d_Mod_measure_2 : decode prog_14_method_5_code 2 = .ok (.bipush 56, 2) := by decide +kernel
theorem d_Mod_measure_4 : decode prog_14_method_5_code 4 = .ok (.istore 4, 2) := by decide +kernel
theorem d_Mod_measure_6 : decode prog_14_method_5_code 6 = .ok (.iload 4, 2) := by decide +kernel
theorem d_Mod_measure_8 : decode prog_14_method_5_code 8 = .ok (.ifCond .lt 56, 3) := by decide +kernel
theorem d_Mod_measure_11 : decode prog_14_method_5_code 11 = .ok (.lload_n 0, 1) := by decide +kernel
theorem d_Mod_measure_12 : decode prog_14_method_5_code 12 = .ok (.iload 4, 2) := by decide +kernel
theorem d_Mod_measure_14 : decode prog_14_method_5_code 14 = .ok (.lshr, 1) := by decide +kernel
theorem d_Mod_measure_15 : decode prog_14_method_5_code 15 = .ok (.l2i, 1) := by decide +kernel
theorem d_Mod_measure_16 : decode prog_14_method_5_code 16 = .ok (.sipush 255, 3) := by decide +kernel
theorem d_Mod_measure_19 : decode prog_14_method_5_code 19 = .ok (.iand, 1) := by decide +kernel
theorem d_Mod_measure_20 : decode prog_14_method_5_code 20 = .ok (.istore 5, 2) := by decide +kernel
theorem d_Mod_measure_22 : decode prog_14_method_5_code 22 = .ok (.iload 5, 2) := by decide +kernel
theorem d_Mod_measure_24 : decode prog_14_method_5_code 24 = .ok (.ifCond .ne 6, 3) := by decide +kernel
theorem d_Mod_measure_27 : decode prog_14_method_5_code 27 = .ok (.goto 31, 3) := by decide +kernel
theorem d_Mod_measure_30 : decode prog_14_method_5_code 30 = .ok (.iload 5, 2) := by decide +kernel
theorem d_Mod_measure_32 : decode prog_14_method_5_code 32 = .ok (.bipush 32, 2) := by decide +kernel
theorem d_Mod_measure_34 : decode prog_14_method_5_code 34 = .ok (.bipush 126, 2) := by decide +kernel
theorem d_Mod_measure_36 : decode prog_14_method_5_code 36 = .ok (.invokestatic 154, 3) := by decide +kernel
theorem d_Mod_measure_39 : decode prog_14_method_5_code 39 = .ok (.ifCond .ne 16, 3) := by decide +kernel
theorem d_Mod_measure_42 : decode prog_14_method_5_code 42 = .ok (.iload_n 2, 1) := by decide +kernel
theorem d_Mod_measure_43 : decode prog_14_method_5_code 43 = .ok (.ifCond .eq 10, 3) := by decide +kernel
theorem d_Mod_measure_46 : decode prog_14_method_5_code 46 = .ok (.iload 5, 2) := by decide +kernel
theorem d_Mod_measure_48 : decode prog_14_method_5_code 48 = .ok (.bipush 10, 2) := by decide +kernel
theorem d_Mod_measure_50 : decode prog_14_method_5_code 50 = .ok (.if_icmp .eq 5, 3) := by decide +kernel
theorem d_Mod_measure_53 : decode prog_14_method_5_code 53 = .ok (.iconst (-1), 1) := by decide +kernel
theorem d_Mod_measure_54 : decode prog_14_method_5_code 54 = .ok (.ireturn, 1) := by decide +kernel
theorem d_Mod_measure_55 : decode prog_14_method_5_code 55 = .ok (.iinc 3 1, 3) := by decide +kernel
theorem d_Mod_measure_58 : decode prog_14_method_5_code 58 = .ok (.iinc 4 (-8), 3) := by decide +kernel
theorem d_Mod_measure_61 : decode prog_14_method_5_code 61 = .ok (.goto (-55), 3) := by decide +kernel
theorem d_Mod_measure_64 : decode prog_14_method_5_code 64 = .ok (.iload_n 3, 1) := by decide +kernel
theorem d_Mod_measure_65 : decode prog_14_method_5_code 65 = .ok (.ireturn, 1) := by decide +kernel
theorem d_Mod_script_0 : decode prog_14_method_6_code 0 = .ok (.lload_n 1, 1) := by decide +kernel
theorem d_Mod_script_1 : decode prog_14_method_6_code 1 = .ok (.iconst 1, 1) := by decide +kernel
theorem d_Mod_script_2 : decode prog_14_method_6_code 2 = .ok (.invokestatic 158, 3) := by decide +kernel
theorem d_Mod_script_5 : decode prog_14_method_6_code 5 = .ok (.istore_n 3, 1) := by decide +kernel
theorem d_Mod_script_6 : decode prog_14_method_6_code 6 = .ok (.iload_n 3, 1) := by decide +kernel
theorem d_Mod_script_7 : decode prog_14_method_6_code 7 = .ok (.ifCond .ge 9, 3) := by decide +kernel
theorem d_Mod_script_10 : decode prog_14_method_6_code 10 = .ok (.aload_n 0, 1) := by decide +kernel
theorem d_Mod_script_11 : decode prog_14_method_6_code 11 = .ok (.iconst 1, 1) := by decide +kernel
theorem d_Mod_script_12 : decode prog_14_method_6_code 12 = .ok (.invokevirtual 162, 3) := by decide +kernel
theorem d_Mod_script_15 : decode prog_14_method_6_code 15 = .ok (.ireturn, 1) := by decide +kernel
theorem d_Mod_script_16 : decode prog_14_method_6_code 16 = .ok (.aload_n 0, 1) := by decide +kernel
theorem d_Mod_script_17 : decode prog_14_method_6_code 17 = .ok (.getfield 166, 3) := by decide +kernel
theorem d_Mod_script_20 : decode prog_14_method_6_code 20 = .ok (.iload_n 3, 1) := by decide +kernel
theorem d_Mod_script_21 : decode prog_14_method_6_code 21 = .ok (.iadd, 1) := by decide +kernel
theorem d_Mod_script_22 : decode prog_14_method_6_code 22 = .ok (.sipush 240, 3) := by decide +kernel
theorem d_Mod_script_25 : decode prog_14_method_6_code 25 = .ok (.if_icmp .le 9, 3) := by decide +kernel
theorem d_Mod_script_28 : decode prog_14_method_6_code 28 = .ok (.aload_n 0, 1) := by decide +kernel
theorem d_Mod_script_29 : decode prog_14_method_6_code 29 = .ok (.iconst 2, 1) := by decide +kernel
theorem d_Mod_script_30 : decode prog_14_method_6_code 30 = .ok (.invokevirtual 162, 3) := by decide +kernel
theorem d_Mod_script_33 : decode prog_14_method_6_code 33 = .ok (.ireturn, 1) := by decide +kernel
theorem d_Mod_script_34 : decode prog_14_method_6_code 34 = .ok (.aload_n 0, 1) := by decide +kernel
theorem d_Mod_script_35 : decode prog_14_method_6_code 35 = .ok (.iconst 0, 1) := by decide +kernel
theorem d_Mod_script_36 : decode prog_14_method_6_code 36 = .ok (.putfield 151, 3) := by decide +kernel
theorem d_Mod_script_39 : decode prog_14_method_6_code 39 = .ok (.bipush 56, 2) := by decide +kernel
theorem d_Mod_script_41 : decode prog_14_method_6_code 41 = .ok (.istore 4, 2) := by decide +kernel
theorem d_Mod_script_43 : decode prog_14_method_6_code 43 = .ok (.iload 4, 2) := by decide +kernel
theorem d_Mod_script_45 : decode prog_14_method_6_code 45 = .ok (.ifCond .lt 49, 3) := by decide +kernel
theorem d_Mod_script_48 : decode prog_14_method_6_code 48 = .ok (.lload_n 1, 1) := by decide +kernel
theorem d_Mod_script_49 : decode prog_14_method_6_code 49 = .ok (.iload 4, 2) := by decide +kernel
theorem d_Mod_script_51 : decode prog_14_method_6_code 51 = .ok (.lshr, 1) := by decide +kernel
theorem d_Mod_script_52 : decode prog_14_method_6_code 52 = .ok (.l2i, 1) := by decide +kernel
theorem d_Mod_script_53 : decode prog_14_method_6_code 53 = .ok (.sipush 255, 3) := by decide +kernel
theorem d_Mod_script_56 : decode prog_14_method_6_code 56 = .ok (.iand, 1) := by decide +kernel
theorem d_Mod_script_57 : decode prog_14_method_6_code 57 = .ok (.istore 5, 2) := by decide +kernel
theorem d_Mod_script_59 : decode prog_14_method_6_code 59 = .ok (.iload 5, 2) := by decide +kernel
theorem d_Mod_script_61 : decode prog_14_method_6_code 61 = .ok (.ifCond .ne 6, 3) := by decide +kernel
theorem d_Mod_script_64 : decode prog_14_method_6_code 64 = .ok (.goto 24, 3) := by decide +kernel
theorem d_Mod_script_67 : decode prog_14_method_6_code 67 = .ok (.aload_n 0, 1) := by decide +kernel
theorem d_Mod_script_68 : decode prog_14_method_6_code 68 = .ok (.getfield 7, 3) := by decide +kernel
theorem d_Mod_script_71 : decode prog_14_method_6_code 71 = .ok (.aload_n 0, 1) := by decide +kernel
theorem d_Mod_script_72 : decode prog_14_method_6_code 72 = .ok (.getfield 166, 3) := by decide +kernel
theorem d_Mod_script_75 : decode prog_14_method_6_code 75 = .ok (.iload 5, 2) := by decide +kernel
theorem d_Mod_script_77 : decode prog_14_method_6_code 77 = .ok (.iastore, 1) := by decide +kernel
theorem d_Mod_script_78 : decode prog_14_method_6_code 78 = .ok (.aload_n 0, 1) := by decide +kernel
theorem d_Mod_script_79 : decode prog_14_method_6_code 79 = .ok (.dup, 1) := by decide +kernel
theorem d_Mod_script_80 : decode prog_14_method_6_code 80 = .ok (.getfield 166, 3) := by decide +kernel
theorem d_Mod_script_83 : decode prog_14_method_6_code 83 = .ok (.iconst 1, 1) := by decide +kernel
theorem d_Mod_script_84 : decode prog_14_method_6_code 84 = .ok (.iadd, 1) := by decide +kernel
theorem d_Mod_script_85 : decode prog_14_method_6_code 85 = .ok (.putfield 166, 3) := by decide +kernel
theorem d_Mod_script_88 : decode prog_14_method_6_code 88 = .ok (.iinc 4 (-8), 3) := by decide +kernel
theorem d_Mod_script_91 : decode prog_14_method_6_code 91 = .ok (.goto (-48), 3) := by decide +kernel
theorem d_Mod_script_94 : decode prog_14_method_6_code 94 = .ok (.aload_n 0, 1) := by decide +kernel
theorem d_Mod_script_95 : decode prog_14_method_6_code 95 = .ok (.getfield 166, 3) := by decide +kernel
theorem d_Mod_script_98 : decode prog_14_method_6_code 98 = .ok (.ireturn, 1) := by decide +kernel
theorem d_Mod_clear_0 : decode prog_14_method_7_code 0 = .ok (.iload_n 1, 1) := by decide +kernel
theorem d_Mod_clear_1 : decode prog_14_method_7_code 1 = .ok (.iconst 0, 1) := by decide +kernel
theorem d_Mod_clear_2 : decode prog_14_method_7_code 2 = .ok (.iconst 1, 1) := by decide +kernel
theorem d_Mod_clear_3 : decode prog_14_method_7_code 3 = .ok (.invokestatic 154, 3) := by decide +kernel
theorem d_Mod_clear_6 : decode prog_14_method_7_code 6 = .ok (.ifCond .ne 9, 3) := by decide +kernel
theorem d_Mod_clear_9 : decode prog_14_method_7_code 9 = .ok (.aload_n 0, 1) := by decide +kernel
theorem d_Mod_clear_10 : decode prog_14_method_7_code 10 = .ok (.iconst 1, 1) := by decide +kernel
theorem d_Mod_clear_11 : decode prog_14_method_7_code 11 = .ok (.invokevirtual 162, 3) := by decide +kernel
theorem d_Mod_clear_14 : decode prog_14_method_7_code 14 = .ok (.ireturn, 1) := by decide +kernel
theorem d_Mod_clear_15 : decode prog_14_method_7_code 15 = .ok (.aload_n 0, 1) := by decide +kernel
theorem d_Mod_clear_16 : decode prog_14_method_7_code 16 = .ok (.iconst 0, 1) := by decide +kernel
theorem d_Mod_clear_17 : decode prog_14_method_7_code 17 = .ok (.putfield 151, 3) := by decide +kernel
theorem d_Mod_clear_20 : decode prog_14_method_7_code 20 = .ok (.iload_n 1, 1) := by decide +kernel
theorem d_Mod_clear_21 : decode prog_14_method_7_code 21 = .ok (.ifCond .ne 10, 3) := by decide +kernel
theorem d_Mod_clear_24 : decode prog_14_method_7_code 24 = .ok (.aload_n 0, 1) := by decide +kernel
theorem d_Mod_clear_25 : decode prog_14_method_7_code 25 = .ok (.getfield 166, 3) := by decide +kernel
theorem d_Mod_clear_28 : decode prog_14_method_7_code 28 = .ok (.goto 7, 3) := by decide +kernel
theorem d_Mod_clear_31 : decode prog_14_method_7_code 31 = .ok (.aload_n 0, 1) := by decide +kernel
theorem d_Mod_clear_32 : decode prog_14_method_7_code 32 = .ok (.getfield 169, 3) := by decide +kernel
theorem d_Mod_clear_35 : decode prog_14_method_7_code 35 = .ok (.istore_n 2, 1) := by decide +kernel
theorem d_Mod_clear_36 : decode prog_14_method_7_code 36 = .ok (.iload_n 1, 1) := by decide +kernel
theorem d_Mod_clear_37 : decode prog_14_method_7_code 37 = .ok (.ifCond .ne 11, 3) := by decide +kernel
theorem d_Mod_clear_40 : decode prog_14_method_7_code 40 = .ok (.aload_n 0, 1) := by decide +kernel
theorem d_Mod_clear_41 : decode prog_14_method_7_code 41 = .ok (.iconst 0, 1) := by decide +kernel
theorem d_Mod_clear_42 : decode prog_14_method_7_code 42 = .ok (.putfield 166, 3) := by decide +kernel
theorem d_Mod_clear_45 : decode prog_14_method_7_code 45 = .ok (.goto 8, 3) := by decide +kernel
theorem d_Mod_clear_48 : decode prog_14_method_7_code 48 = .ok (.aload_n 0, 1) := by decide +kernel
theorem d_Mod_clear_49 : decode prog_14_method_7_code 49 = .ok (.iconst 0, 1) := by decide +kernel
theorem d_Mod_clear_50 : decode prog_14_method_7_code 50 = .ok (.putfield 169, 3) := by decide +kernel
theorem d_Mod_clear_53 : decode prog_14_method_7_code 53 = .ok (.iload_n 2, 1) := by decide +kernel
theorem d_Mod_clear_54 : decode prog_14_method_7_code 54 = .ok (.ireturn, 1) := by decide +kernel
theorem d_Mod_addTo_0 : decode prog_14_method_8_code 0 = .ok (.bipush 56, 2) := by decide +kernel
theorem d_Mod_addTo_2 : decode prog_14_method_8_code 2 = .ok (.istore 4, 2) := by decide +kernel
theorem d_Mod_addTo_4 : decode prog_14_method_8_code 4 = .ok (.iload 4, 2) := by decide +kernel
theorem d_Mod_addTo_6 : decode prog_14_method_8_code 6 = .ok (.ifCond .lt 56, 3) := by decide +kernel
theorem d_Mod_addTo_9 : decode prog_14_method_8_code 9 = .ok (.lload_n 2, 1) := by decide +kernel
theorem d_Mod_addTo_10 : decode prog_14_method_8_code 10 = .ok (.iload 4, 2) := by decide +kernel
theorem d_Mod_addTo_12 : decode prog_14_method_8_code 12 = .ok (.lshr, 1) := by decide +kernel
theorem d_Mod_addTo_13 : decode prog_14_method_8_code 13 = .ok (.l2i, 1) := by decide +kernel
theorem d_Mod_addTo_14 : decode prog_14_method_8_code 14 = .ok (.sipush 255, 3) := by decide +kernel
theorem d_Mod_addTo_17 : decode prog_14_method_8_code 17 = .ok (.iand, 1) := by decide +kernel
theorem d_Mod_addTo_18 : decode prog_14_method_8_code 18 = .ok (.istore 5, 2) := by decide +kernel
theorem d_Mod_addTo_20 : decode prog_14_method_8_code 20 = .ok (.iload 5, 2) := by decide +kernel
theorem d_Mod_addTo_22 : decode prog_14_method_8_code 22 = .ok (.ifCond .ne 6, 3) := by decide +kernel
theorem d_Mod_addTo_25 : decode prog_14_method_8_code 25 = .ok (.goto 31, 3) := by decide +kernel
theorem d_Mod_addTo_28 : decode prog_14_method_8_code 28 = .ok (.aload_n 0, 1) := by decide +kernel
theorem d_Mod_addTo_29 : decode prog_14_method_8_code 29 = .ok (.getfield 16, 3) := by decide +kernel
theorem d_Mod_addTo_32 : decode prog_14_method_8_code 32 = .ok (.bipush 24, 2) := by decide +kernel
theorem d_Mod_addTo_34 : decode prog_14_method_8_code 34 = .ok (.iload_n 1, 1) := by decide +kernel
theorem d_Mod_addTo_35 : decode prog_14_method_8_code 35 = .ok (.imul, 1) := by decide +kernel
theorem d_Mod_addTo_36 : decode prog_14_method_8_code 36 = .ok (.aload_n 0, 1) := by decide +kernel
theorem d_Mod_addTo_37 : decode prog_14_method_8_code 37 = .ok (.getfield 13, 3) := by decide +kernel
theorem d_Mod_addTo_40 : decode prog_14_method_8_code 40 = .ok (.iload_n 1, 1) := by decide +kernel
theorem d_Mod_addTo_41 : decode prog_14_method_8_code 41 = .ok (.iaload, 1) := by decide +kernel
theorem d_Mod_addTo_42 : decode prog_14_method_8_code 42 = .ok (.iadd, 1) := by decide +kernel
theorem d_Mod_addTo_43 : decode prog_14_method_8_code 43 = .ok (.iload 5, 2) := by decide +kernel
theorem d_Mod_addTo_45 : decode prog_14_method_8_code 45 = .ok (.iastore, 1) := by decide +kernel
theorem d_Mod_addTo_46 : decode prog_14_method_8_code 46 = .ok (.aload_n 0, 1) := by decide +kernel
theorem d_Mod_addTo_47 : decode prog_14_method_8_code 47 = .ok (.getfield 13, 3) := by decide +kernel
theorem d_Mod_addTo_50 : decode prog_14_method_8_code 50 = .ok (.iload_n 1, 1) := by decide +kernel
theorem d_Mod_addTo_51 : decode prog_14_method_8_code 51 = .ok (.dup2, 1) := by decide +kernel
theorem d_Mod_addTo_52 : decode prog_14_method_8_code 52 = .ok (.iaload, 1) := by decide +kernel
theorem d_Mod_addTo_53 : decode prog_14_method_8_code 53 = .ok (.iconst 1, 1) := by decide +kernel
theorem d_Mod_addTo_54 : decode prog_14_method_8_code 54 = .ok (.iadd, 1) := by decide +kernel
theorem d_Mod_addTo_55 : decode prog_14_method_8_code 55 = .ok (.iastore, 1) := by decide +kernel
theorem d_Mod_addTo_56 : decode prog_14_method_8_code 56 = .ok (.iinc 4 (-8), 3) := by decide +kernel
theorem d_Mod_addTo_59 : decode prog_14_method_8_code 59 = .ok (.goto (-55), 3) := by decide +kernel
theorem d_Mod_addTo_62 : decode prog_14_method_8_code 62 = .ok (.return_, 1) := by decide +kernel
theorem d_Mod_line_0 : decode prog_14_method_9_code 0 = .ok (.lload_n 1, 1) := by decide +kernel
theorem d_Mod_line_1 : decode prog_14_method_9_code 1 = .ok (.iconst 0, 1) := by decide +kernel
theorem d_Mod_line_2 : decode prog_14_method_9_code 2 = .ok (.invokestatic 158, 3) := by decide +kernel
theorem d_Mod_line_5 : decode prog_14_method_9_code 5 = .ok (.ifCond .lt 11, 3) := by decide +kernel
theorem d_Mod_line_8 : decode prog_14_method_9_code 8 = .ok (.lload_n 3, 1) := by decide +kernel
theorem d_Mod_line_9 : decode prog_14_method_9_code 9 = .ok (.iconst 0, 1) := by decide +kernel
theorem d_Mod_line_10 : decode prog_14_method_9_code 10 = .ok (.invokestatic 158, 3) := by decide +kernel
theorem d_Mod_line_13 : decode prog_14_method_9_code 13 = .ok (.ifCond .ge 9, 3) := by decide +kernel
theorem d_Mod_line_16 : decode prog_14_method_9_code 16 = .ok (.aload_n 0, 1) := by decide +kernel
theorem d_Mod_line_17 : decode prog_14_method_9_code 17 = .ok (.iconst 1, 1) := by decide +kernel
theorem d_Mod_line_18 : decode prog_14_method_9_code 18 = .ok (.invokevirtual 162, 3) := by decide +kernel
theorem d_Mod_line_21 : decode prog_14_method_9_code 21 = .ok (.ireturn, 1) := by decide +kernel
theorem d_Mod_line_22 : decode prog_14_method_9_code 22 = .ok (.aload_n 0, 1) := by decide +kernel
theorem d_Mod_line_23 : decode prog_14_method_9_code 23 = .ok (.getfield 169, 3) := by decide +kernel
theorem d_Mod_line_26 : decode prog_14_method_9_code 26 = .ok (.bipush 12, 2) := by decide +kernel
theorem d_Mod_line_28 : decode prog_14_method_9_code 28 = .ok (.if_icmp .ne 9, 3) := by decide +kernel
theorem d_Mod_line_31 : decode prog_14_method_9_code 31 = .ok (.aload_n 0, 1) := by decide +kernel
theorem d_Mod_line_32 : decode prog_14_method_9_code 32 = .ok (.iconst 2, 1) := by decide +kernel
theorem d_Mod_line_33 : decode prog_14_method_9_code 33 = .ok (.invokevirtual 162, 3) := by decide +kernel
theorem d_Mod_line_36 : decode prog_14_method_9_code 36 = .ok (.ireturn, 1) := by decide +kernel
theorem d_Mod_line_37 : decode prog_14_method_9_code 37 = .ok (.aload_n 0, 1) := by decide +kernel
theorem d_Mod_line_38 : decode prog_14_method_9_code 38 = .ok (.iconst 0, 1) := by decide +kernel
theorem d_Mod_line_39 : decode prog_14_method_9_code 39 = .ok (.putfield 151, 3) := by decide +kernel
theorem d_Mod_line_42 : decode prog_14_method_9_code 42 = .ok (.aload_n 0, 1) := by decide +kernel
theorem d_Mod_line_43 : decode prog_14_method_9_code 43 = .ok (.getfield 13, 3) := by decide +kernel
theorem d_Mod_line_46 : decode prog_14_method_9_code 46 = .ok (.aload_n 0, 1) := by decide +kernel
theorem d_Mod_line_47 : decode prog_14_method_9_code 47 = .ok (.getfield 169, 3) := by decide +kernel
theorem d_Mod_line_50 : decode prog_14_method_9_code 50 = .ok (.iconst 0, 1) := by decide +kernel
theorem d_Mod_line_51 : decode prog_14_method_9_code 51 = .ok (.iastore, 1) := by decide +kernel
theorem d_Mod_line_52 : decode prog_14_method_9_code 52 = .ok (.aload_n 0, 1) := by decide +kernel
theorem d_Mod_line_53 : decode prog_14_method_9_code 53 = .ok (.aload_n 0, 1) := by decide +kernel
theorem d_Mod_line_54 : decode prog_14_method_9_code 54 = .ok (.getfield 169, 3) := by decide +kernel
theorem d_Mod_line_57 : decode prog_14_method_9_code 57 = .ok (.lload_n 1, 1) := by decide +kernel
theorem d_Mod_line_58 : decode prog_14_method_9_code 58 = .ok (.invokevirtual 172, 3) := by decide +kernel
theorem d_Mod_line_61 : decode prog_14_method_9_code 61 = .ok (.aload_n 0, 1) := by decide +kernel
theorem d_Mod_line_62 : decode prog_14_method_9_code 62 = .ok (.aload_n 0, 1) := by decide +kernel
theorem d_Mod_line_63 : decode prog_14_method_9_code 63 = .ok (.getfield 169, 3) := by decide +kernel
theorem d_Mod_line_66 : decode prog_14_method_9_code 66 = .ok (.lload_n 3, 1) := by decide +kernel
theorem d_Mod_line_67 : decode prog_14_method_9_code 67 = .ok (.invokevirtual 172, 3) := by decide +kernel
theorem d_Mod_line_70 : decode prog_14_method_9_code 70 = .ok (.aload_n 0, 1) := by decide +kernel
theorem d_Mod_line_71 : decode prog_14_method_9_code 71 = .ok (.dup, 1) := by decide +kernel
theorem d_Mod_line_72 : decode prog_14_method_9_code 72 = .ok (.getfield 169, 3) := by decide +kernel
theorem d_Mod_line_75 : decode prog_14_method_9_code 75 = .ok (.iconst 1, 1) := by decide +kernel
theorem d_Mod_line_76 : decode prog_14_method_9_code 76 = .ok (.iadd, 1) := by decide +kernel
theorem d_Mod_line_77 : decode prog_14_method_9_code 77 = .ok (.putfield 169, 3) := by decide +kernel
theorem d_Mod_line_80 : decode prog_14_method_9_code 80 = .ok (.aload_n 0, 1) := by decide +kernel
theorem d_Mod_line_81 : decode prog_14_method_9_code 81 = .ok (.getfield 169, 3) := by decide +kernel
theorem d_Mod_line_84 : decode prog_14_method_9_code 84 = .ok (.ireturn, 1) := by decide +kernel
theorem d_Mod_more_0 : decode prog_14_method_10_code 0 = .ok (.lload_n 1, 1) := by decide +kernel
theorem d_Mod_more_1 : decode prog_14_method_10_code 1 = .ok (.iconst 0, 1) := by decide +kernel
theorem d_Mod_more_2 : decode prog_14_method_10_code 2 = .ok (.invokestatic 158, 3) := by decide +kernel
theorem d_Mod_more_5 : decode prog_14_method_10_code 5 = .ok (.istore_n 3, 1) := by decide +kernel
theorem d_Mod_more_6 : decode prog_14_method_10_code 6 = .ok (.iload_n 3, 1) := by decide +kernel
theorem d_Mod_more_7 : decode prog_14_method_10_code 7 = .ok (.ifCond .ge 9, 3) := by decide +kernel
theorem d_Mod_more_10 : decode prog_14_method_10_code 10 = .ok (.aload_n 0, 1) := by decide +kernel
theorem d_Mod_more_11 : decode prog_14_method_10_code 11 = .ok (.iconst 1, 1) := by decide +kernel
theorem d_Mod_more_12 : decode prog_14_method_10_code 12 = .ok (.invokevirtual 162, 3) := by decide +kernel
theorem d_Mod_more_15 : decode prog_14_method_10_code 15 = .ok (.ireturn, 1) := by decide +kernel
theorem d_Mod_more_16 : decode prog_14_method_10_code 16 = .ok (.aload_n 0, 1) := by decide +kernel
theorem d_Mod_more_17 : decode prog_14_method_10_code 17 = .ok (.getfield 169, 3) := by decide +kernel
theorem d_Mod_more_20 : decode prog_14_method_10_code 20 = .ok (.ifCond .eq 21, 3) := by decide +kernel
theorem d_Mod_more_23 : decode prog_14_method_10_code 23 = .ok (.aload_n 0, 1) := by decide +kernel
theorem d_Mod_more_24 : decode prog_14_method_10_code 24 = .ok (.getfield 13, 3) := by decide +kernel
theorem d_Mod_more_27 : decode prog_14_method_10_code 27 = .ok (.aload_n 0, 1) := by decide +kernel
theorem d_Mod_more_28 : decode prog_14_method_10_code 28 = .ok (.getfield 169, 3) := by decide +kernel
theorem d_Mod_more_31 : decode prog_14_method_10_code 31 = .ok (.iconst 1, 1) := by decide +kernel
theorem d_Mod_more_32 : decode prog_14_method_10_code 32 = .ok (.isub, 1) := by decide +kernel
theorem d_Mod_more_33 : decode prog_14_method_10_code 33 = .ok (.iaload, 1) := by decide +kernel
theorem d_Mod_more_34 : decode prog_14_method_10_code 34 = .ok (.iload_n 3, 1) := by decide +kernel
theorem d_Mod_more_35 : decode prog_14_method_10_code 35 = .ok (.iadd, 1) := by decide +kernel
theorem d_Mod_more_36 : decode prog_14_method_10_code 36 = .ok (.bipush 24, 2) := by decide +kernel
theorem d_Mod_more_38 : decode prog_14_method_10_code 38 = .ok (.if_icmp .le 9, 3) := by decide +kernel
theorem d_Mod_more_41 : decode prog_14_method_10_code 41 = .ok (.aload_n 0, 1) := by decide +kernel
theorem d_Mod_more_42 : decode prog_14_method_10_code 42 = .ok (.iconst 2, 1) := by decide +kernel
theorem d_Mod_more_43 : decode prog_14_method_10_code 43 = .ok (.invokevirtual 162, 3) := by decide +kernel
theorem d_Mod_more_46 : decode prog_14_method_10_code 46 = .ok (.ireturn, 1) := by decide +kernel
theorem d_Mod_more_47 : decode prog_14_method_10_code 47 = .ok (.aload_n 0, 1) := by decide +kernel
theorem d_Mod_more_48 : decode prog_14_method_10_code 48 = .ok (.iconst 0, 1) := by decide +kernel
theorem d_Mod_more_49 : decode prog_14_method_10_code 49 = .ok (.putfield 151, 3) := by decide +kernel
theorem d_Mod_more_52 : decode prog_14_method_10_code 52 = .ok (.aload_n 0, 1) := by decide +kernel
theorem d_Mod_more_53 : decode prog_14_method_10_code 53 = .ok (.aload_n 0, 1) := by decide +kernel
theorem d_Mod_more_54 : decode prog_14_method_10_code 54 = .ok (.getfield 169, 3) := by decide +kernel
theorem d_Mod_more_57 : decode prog_14_method_10_code 57 = .ok (.iconst 1, 1) := by decide +kernel
theorem d_Mod_more_58 : decode prog_14_method_10_code 58 = .ok (.isub, 1) := by decide +kernel
theorem d_Mod_more_59 : decode prog_14_method_10_code 59 = .ok (.lload_n 1, 1) := by decide +kernel
theorem d_Mod_more_60 : decode prog_14_method_10_code 60 = .ok (.invokevirtual 172, 3) := by decide +kernel
theorem d_Mod_more_63 : decode prog_14_method_10_code 63 = .ok (.aload_n 0, 1) := by decide +kernel
theorem d_Mod_more_64 : decode prog_14_method_10_code 64 = .ok (.getfield 13, 3) := by decide +kernel
theorem d_Mod_more_67 : decode prog_14_method_10_code 67 = .ok (.aload_n 0, 1) := by decide +kernel
theorem d_Mod_more_68 : decode prog_14_method_10_code 68 = .ok (.getfield 169, 3) := by decide +kernel
theorem d_Mod_more_71 : decode prog_14_method_10_code 71 = .ok (.iconst 1, 1) := by decide +kernel
theorem d_Mod_more_72 : decode prog_14_method_10_code 72 = .ok (.isub, 1) := by decide +kernel
theorem d_Mod_more_73 : decode prog_14_method_10_code 73 = .ok (.iaload, 1) := by decide +kernel
theorem d_Mod_more_74 : decode prog_14_method_10_code 74 = .ok (.ireturn, 1) := by decide +kernel
theorem d_Mod_here_0 : decode prog_14_method_11_code 0 = .ok (.aload_n 0, 1) := by decide +kernel
theorem d_Mod_here_1 : decode prog_14_method_11_code 1 = .ok (.getfield 176, 3) := by decide +kernel
theorem d_Mod_here_4 : decode prog_14_method_11_code 4 = .ok (.aload_n 0, 1) := by decide +kernel
theorem d_Mod_here_5 : decode prog_14_method_11_code 5 = .ok (.getfield 166, 3) := by decide +kernel
theorem d_Mod_here_8 : decode prog_14_method_11_code 8 = .ok (.if_icmp .ge 15, 3) := by decide +kernel
theorem d_Mod_here_11 : decode prog_14_method_11_code 11 = .ok (.aload_n 0, 1) := by decide +kernel
theorem d_Mod_here_12 : decode prog_14_method_11_code 12 = .ok (.getfield 7, 3) := by decide +kernel
theorem d_Mod_here_15 : decode prog_14_method_11_code 15 = .ok (.aload_n 0, 1) := by decide +kernel
theorem d_Mod_here_16 : decode prog_14_method_11_code 16 = .ok (.getfield 176, 3) := by decide +kernel
theorem d_Mod_here_19 : decode prog_14_method_11_code 19 = .ok (.iaload, 1) := by decide +kernel
theorem d_Mod_here_20 : decode prog_14_method_11_code 20 = .ok (.goto 4, 3) := by decide +kernel
theorem d_Mod_here_23 : decode prog_14_method_11_code 23 = .ok (.iconst (-1), 1) := by decide +kernel
theorem d_Mod_here_24 : decode prog_14_method_11_code 24 = .ok (.ireturn, 1) := by decide +kernel
theorem d_Mod_behind_0 : decode prog_14_method_12_code 0 = .ok (.aload_n 0, 1) := by decide +kernel
theorem d_Mod_behind_1 : decode prog_14_method_12_code 1 = .ok (.getfield 176, 3) := by decide +kernel
theorem d_Mod_behind_4 : decode prog_14_method_12_code 4 = .ok (.iconst 1, 1) := by decide +kernel
theorem d_Mod_behind_5 : decode prog_14_method_12_code 5 = .ok (.iadd, 1) := by decide +kernel
theorem d_Mod_behind_6 : decode prog_14_method_12_code 6 = .ok (.aload_n 0, 1) := by decide +kernel
theorem d_Mod_behind_7 : decode prog_14_method_12_code 7 = .ok (.getfield 166, 3) := by decide +kernel
theorem d_Mod_behind_10 : decode prog_14_method_12_code 10 = .ok (.if_icmp .ge 17, 3) := by decide +kernel
theorem d_Mod_behind_13 : decode prog_14_method_12_code 13 = .ok (.aload_n 0, 1) := by decide +kernel
theorem d_Mod_behind_14 : decode prog_14_method_12_code 14 = .ok (.getfield 7, 3) := by decide +kernel
theorem d_Mod_behind_17 : decode prog_14_method_12_code 17 = .ok (.aload_n 0, 1) := by decide +kernel
theorem d_Mod_behind_18 : decode prog_14_method_12_code 18 = .ok (.getfield 176, 3) := by decide +kernel
theorem d_Mod_behind_21 : decode prog_14_method_12_code 21 = .ok (.iconst 1, 1) := by decide +kernel
theorem d_Mod_behind_22 : decode prog_14_method_12_code 22 = .ok (.iadd, 1) := by decide +kernel
theorem d_Mod_behind_23 : decode prog_14_method_12_code 23 = .ok (.iaload, 1) := by decide +kernel
theorem d_Mod_behind_24 : decode prog_14_method_12_code 24 = .ok (.goto 4, 3) := by decide +kernel
theorem d_Mod_behind_27 : decode prog_14_method_12_code 27 = .ok (.iconst (-1), 1) := by decide +kernel
theorem d_Mod_behind_28 : decode prog_14_method_12_code 28 = .ok (.ireturn, 1) := by decide +kernel
theorem d_Mod_wrong_0 : decode prog_14_method_13_code 0 = .ok (.aload_n 0, 1) := by decide +kernel
theorem d_Mod_wrong_1 : decode prog_14_method_13_code 1 = .ok (.getfield 179, 3) := by decide +kernel
theorem d_Mod_wrong_4 : decode prog_14_method_13_code 4 = .ok (.ifCond .ne 8, 3) := by decide +kernel
theorem d_Mod_wrong_7 : decode prog_14_method_13_code 7 = .ok (.aload_n 0, 1) := by decide +kernel
theorem d_Mod_wrong_8 : decode prog_14_method_13_code 8 = .ok (.iload_n 1, 1) := by decide +kernel
theorem d_Mod_wrong_9 : decode prog_14_method_13_code 9 = .ok (.putfield 19, 3) := by decide +kernel
theorem d_Mod_wrong_12 : decode prog_14_method_13_code 12 = .ok (.aload_n 0, 1) := by decide +kernel
theorem d_Mod_wrong_13 : decode prog_14_method_13_code 13 = .ok (.iconst 1, 1) := by decide +kernel
theorem d_Mod_wrong_14 : decode prog_14_method_13_code 14 = .ok (.putfield 179, 3) := by decide +kernel
theorem d_Mod_wrong_17 : decode prog_14_method_13_code 17 = .ok (.return_, 1) := by decide +kernel
theorem d_Mod_expect_0 : decode prog_14_method_14_code 0 = .ok (.aload_n 0, 1) := by decide +kernel
theorem d_Mod_expect_1 : decode prog_14_method_14_code 1 = .ok (.getfield 179, 3) := by decide +kernel
theorem d_Mod_expect_4 : decode prog_14_method_14_code 4 = .ok (.ifCond .eq 4, 3) := by decide +kernel
theorem d_Mod_expect_7 : decode prog_14_method_14_code 7 = .ok (.return_, 1) := by decide +kernel
theorem d_Mod_expect_8 : decode prog_14_method_14_code 8 = .ok (.aload_n 0, 1) := by decide +kernel
theorem d_Mod_expect_9 : decode prog_14_method_14_code 9 = .ok (.invokevirtual 183, 3) := by decide +kernel
theorem d_Mod_expect_12 : decode prog_14_method_14_code 12 = .ok (.iload_n 1, 1) := by decide +kernel
theorem d_Mod_expect_13 : decode prog_14_method_14_code 13 = .ok (.if_icmp .ne 16, 3) := by decide +kernel
theorem d_Mod_expect_16 : decode prog_14_method_14_code 16 = .ok (.aload_n 0, 1) := by decide +kernel
theorem d_Mod_expect_17 : decode prog_14_method_14_code 17 = .ok (.dup, 1) := by decide +kernel
theorem d_Mod_expect_18 : decode prog_14_method_14_code 18 = .ok (.getfield 176, 3) := by decide +kernel
theorem d_Mod_expect_21 : decode prog_14_method_14_code 21 = .ok (.iconst 1, 1) := by decide +kernel
theorem d_Mod_expect_22 : decode prog_14_method_14_code 22 = .ok (.iadd, 1) := by decide +kernel
theorem d_Mod_expect_23 : decode prog_14_method_14_code 23 = .ok (.putfield 176, 3) := by decide +kernel
theorem d_Mod_expect_26 : decode prog_14_method_14_code 26 = .ok (.goto 11, 3) := by decide +kernel
theorem d_Mod_expect_29 : decode prog_14_method_14_code 29 = .ok (.aload_n 0, 1) := by decide +kernel
theorem d_Mod_expect_30 : decode prog_14_method_14_code 30 = .ok (.aload_n 0, 1) := by decide +kernel
theorem d_Mod_expect_31 : decode prog_14_method_14_code 31 = .ok (.getfield 176, 3) := by decide +kernel
theorem d_Mod_expect_34 : decode prog_14_method_14_code 34 = .ok (.invokevirtual 187, 3) := by decide +kernel
theorem d_Mod_expect_37 : decode prog_14_method_14_code 37 = .ok (.return_, 1) := by decide +kernel
theorem d_Mod_keep_0 : decode prog_14_method_15_code 0 = .ok (.aload_n 0, 1) := by decide +kernel
theorem d_Mod_keep_1 : decode prog_14_method_15_code 1 = .ok (.getfield 96, 3) := by decide +kernel
theorem d_Mod_keep_4 : decode prog_14_method_15_code 4 = .ok (.sipush 300, 3) := by decide +kernel
theorem d_Mod_keep_7 : decode prog_14_method_15_code 7 = .ok (.aload_n 0, 1) := by decide +kernel
theorem d_Mod_keep_8 : decode prog_14_method_15_code 8 = .ok (.getfield 191, 3) := by decide +kernel
theorem d_Mod_keep_11 : decode prog_14_method_15_code 11 = .ok (.imul, 1) := by decide +kernel
theorem d_Mod_keep_12 : decode prog_14_method_15_code 12 = .ok (.aload_n 0, 1) := by decide +kernel
theorem d_Mod_keep_13 : decode prog_14_method_15_code 13 = .ok (.getfield 78, 3) := by decide +kernel
theorem d_Mod_keep_16 : decode prog_14_method_15_code 16 = .ok (.aload_n 0, 1) := by decide +kernel
theorem d_Mod_keep_17 : decode prog_14_method_15_code 17 = .ok (.getfield 191, 3) := by decide +kernel
theorem d_Mod_keep_20 : decode prog_14_method_15_code 20 = .ok (.iaload, 1) := by decide +kernel
theorem d_Mod_keep_21 : decode prog_14_method_15_code 21 = .ok (.iadd, 1) := by decide +kernel
theorem d_Mod_keep_22 : decode prog_14_method_15_code 22 = .ok (.iload_n 1, 1) := by decide +kernel
theorem d_Mod_keep_23 : decode prog_14_method_15_code 23 = .ok (.iastore, 1) := by decide +kernel
theorem d_Mod_keep_24 : decode prog_14_method_15_code 24 = .ok (.aload_n 0, 1) := by decide +kernel
theorem d_Mod_keep_25 : decode prog_14_method_15_code 25 = .ok (.getfield 78, 3) := by decide +kernel
theorem d_Mod_keep_28 : decode prog_14_method_15_code 28 = .ok (.aload_n 0, 1) := by decide +kernel
theorem d_Mod_keep_29 : decode prog_14_method_15_code 29 = .ok (.getfield 191, 3) := by decide +kernel
theorem d_Mod_keep_32 : decode prog_14_method_15_code 32 = .ok (.dup2, 1) := by decide +kernel
theorem d_Mod_keep_33 : decode prog_14_method_15_code 33 = .ok (.iaload, 1) := by decide +kernel
theorem d_Mod_keep_34 : decode prog_14_method_15_code 34 = .ok (.iconst 1, 1) := by decide +kernel
theorem d_Mod_keep_35 : decode prog_14_method_15_code 35 = .ok (.iadd, 1) := by decide +kernel
theorem d_Mod_keep_36 : decode prog_14_method_15_code 36 = .ok (.iastore, 1) := by decide +kernel
theorem d_Mod_keep_37 : decode prog_14_method_15_code 37 = .ok (.return_, 1) := by decide +kernel
theorem d_Mod_stored_0 : decode prog_14_method_16_code 0 = .ok (.sipush 300, 3) := by decide +kernel
theorem d_Mod_stored_3 : decode prog_14_method_16_code 3 = .ok (.aload_n 0, 1) := by decide +kernel
theorem d_Mod_stored_4 : decode prog_14_method_16_code 4 = .ok (.getfield 191, 3) := by decide +kernel
theorem d_Mod_stored_7 : decode prog_14_method_16_code 7 = .ok (.imul, 1) := by decide +kernel
theorem d_Mod_stored_8 : decode prog_14_method_16_code 8 = .ok (.aload_n 0, 1) := by decide +kernel
theorem d_Mod_stored_9 : decode prog_14_method_16_code 9 = .ok (.getfield 78, 3) := by decide +kernel
theorem d_Mod_stored_12 : decode prog_14_method_16_code 12 = .ok (.aload_n 0, 1) := by decide +kernel
theorem d_Mod_stored_13 : decode prog_14_method_16_code 13 = .ok (.getfield 191, 3) := by decide +kernel
theorem d_Mod_stored_16 : decode prog_14_method_16_code 16 = .ok (.iaload, 1) := by decide +kernel
theorem d_Mod_stored_17 : decode prog_14_method_16_code 17 = .ok (.iadd, 1) := by decide +kernel
theorem d_Mod_stored_18 : decode prog_14_method_16_code 18 = .ok (.ireturn, 1) := by decide +kernel
theorem d_Mod_addItem_0 : decode prog_14_method_17_code 0 = .ok (.iload_n 1, 1) := by decide +kernel
theorem d_Mod_addItem_1 : decode prog_14_method_17_code 1 = .ok (.iconst 4, 1) := by decide +kernel
theorem d_Mod_addItem_2 : decode prog_14_method_17_code 2 = .ok (.if_icmp .ge 7, 3) := by decide +kernel
theorem d_Mod_addItem_5 : decode prog_14_method_17_code 5 = .ok (.iconst 1, 1) := by decide +kernel
theorem d_Mod_addItem_6 : decode prog_14_method_17_code 6 = .ok (.goto 4, 3) := by decide +kernel
theorem d_Mod_addItem_9 : decode prog_14_method_17_code 9 = .ok (.iconst 0, 1) := by decide +kernel
theorem d_Mod_addItem_10 : decode prog_14_method_17_code 10 = .ok (.istore 4, 2) := by decide +kernel
theorem d_Mod_addItem_12 : decode prog_14_method_17_code 12 = .ok (.iload 4, 2) := by decide +kernel
theorem d_Mod_addItem_14 : decode prog_14_method_17_code 14 = .ok (.ifCond .eq 18, 3) := by decide +kernel
theorem d_Mod_addItem_17 : decode prog_14_method_17_code 17 = .ok (.aload_n 0, 1) := by decide +kernel
theorem d_Mod_addItem_18 : decode prog_14_method_17_code 18 = .ok (.getfield 194, 3) := by decide +kernel
theorem d_Mod_addItem_21 : decode prog_14_method_17_code 21 = .ok (.bipush 14, 2) := by decide +kernel
theorem d_Mod_addItem_23 : decode prog_14_method_17_code 23 = .ok (.if_icmp .ne 9, 3) := by decide +kernel
theorem d_Mod_addItem_26 : decode prog_14_method_17_code 26 = .ok (.aload_n 0, 1) := by decide +kernel
theorem d_Mod_addItem_27 : decode prog_14_method_17_code 27 = .ok (.iload_n 3, 1) := by decide +kernel
theorem d_Mod_addItem_28 : decode prog_14_method_17_code 28 = .ok (.invokevirtual 187, 3) := by decide +kernel
theorem d_Mod_addItem_31 : decode prog_14_method_17_code 31 = .ok (.return_, 1) := by decide +kernel
theorem d_Mod_addItem_32 : decode prog_14_method_17_code 32 = .ok (.iload 4, 2) := by decide +kernel
theorem d_Mod_addItem_34 : decode prog_14_method_17_code 34 = .ok (.ifCond .eq 13, 3) := by decide +kernel
theorem d_Mod_addItem_37 : decode prog_14_method_17_code 37 = .ok (.aload_n 0, 1) := by decide +kernel
theorem d_Mod_addItem_38 : decode prog_14_method_17_code 38 = .ok (.dup, 1) := by decide +kernel
theorem d_Mod_addItem_39 : decode prog_14_method_17_code 39 = .ok (.getfield 194, 3) := by decide +kernel
theorem d_Mod_addItem_42 : decode prog_14_method_17_code 42 = .ok (.iconst 1, 1) := by decide +kernel
theorem d_Mod_addItem_43 : decode prog_14_method_17_code 43 = .ok (.iadd, 1) := by decide +kernel
theorem d_Mod_addItem_44 : decode prog_14_method_17_code 44 = .ok (.putfield 194, 3) := by decide +kernel
theorem d_Mod_addItem_47 : decode prog_14_method_17_code 47 = .ok (.sipush 260, 3) := by decide +kernel
theorem d_Mod_addItem_50 : decode prog_14_method_17_code 50 = .ok (.aload_n 0, 1) := by decide +kernel
theorem d_Mod_addItem_51 : decode prog_14_method_17_code 51 = .ok (.getfield 191, 3) := by decide +kernel
theorem d_Mod_addItem_54 : decode prog_14_method_17_code 54 = .ok (.imul, 1) := by decide +kernel
theorem d_Mod_addItem_55 : decode prog_14_method_17_code 55 = .ok (.aload_n 0, 1) := by decide +kernel
theorem d_Mod_addItem_56 : decode prog_14_method_17_code 56 = .ok (.getfield 75, 3) := by decide +kernel
theorem d_Mod_addItem_59 : decode prog_14_method_17_code 59 = .ok (.aload_n 0, 1) := by decide +kernel
theorem d_Mod_addItem_60 : decode prog_14_method_17_code 60 = .ok (.getfield 191, 3) := by decide +kernel
theorem d_Mod_addItem_63 : decode prog_14_method_17_code 63 = .ok (.iaload, 1) := by decide +kernel
theorem d_Mod_addItem_64 : decode prog_14_method_17_code 64 = .ok (.iadd, 1) := by decide +kernel
theorem d_Mod_addItem_65 : decode prog_14_method_17_code 65 = .ok (.istore 5, 2) := by decide +kernel
theorem d_Mod_addItem_67 : decode prog_14_method_17_code 67 = .ok (.aload_n 0, 1) := by decide +kernel
theorem d_Mod_addItem_68 : decode prog_14_method_17_code 68 = .ok (.getfield 90, 3) := by decide +kernel
theorem d_Mod_addItem_71 : decode prog_14_method_17_code 71 = .ok (.iload 5, 2) := by decide +kernel
theorem d_Mod_addItem_73 : decode prog_14_method_17_code 73 = .ok (.iload_n 1, 1) := by decide +kernel
theorem d_Mod_addItem_74 : decode prog_14_method_17_code 74 = .ok (.iastore, 1) := by decide +kernel
theorem d_Mod_addItem_75 : decode prog_14_method_17_code 75 = .ok (.aload_n 0, 1) := by decide +kernel
theorem d_Mod_addItem_76 : decode prog_14_method_17_code 76 = .ok (.getfield 93, 3) := by decide +kernel
theorem d_Mod_addItem_79 : decode prog_14_method_17_code 79 = .ok (.iload 5, 2) := by decide +kernel
theorem d_Mod_addItem_81 : decode prog_14_method_17_code 81 = .ok (.iload_n 2, 1) := by decide +kernel
theorem d_Mod_addItem_82 : decode prog_14_method_17_code 82 = .ok (.iastore, 1) := by decide +kernel
theorem d_Mod_addItem_83 : decode prog_14_method_17_code 83 = .ok (.aload_n 0, 1) := by decide +kernel
theorem d_Mod_addItem_84 : decode prog_14_method_17_code 84 = .ok (.getfield 99, 3) := by decide +kernel
theorem d_Mod_addItem_87 : decode prog_14_method_17_code 87 = .ok (.iload 5, 2) := by decide +kernel
theorem d_Mod_addItem_89 : decode prog_14_method_17_code 89 = .ok (.iconst 0, 1) := by decide +kernel
theorem d_Mod_addItem_90 : decode prog_14_method_17_code 90 = .ok (.bastore, 1) := by decide +kernel
theorem d_Mod_addItem_91 : decode prog_14_method_17_code 91 = .ok (.aload_n 0, 1) := by decide +kernel
theorem d_Mod_addItem_92 : decode prog_14_method_17_code 92 = .ok (.getfield 108, 3) := by decide +kernel
theorem d_Mod_addItem_95 : decode prog_14_method_17_code 95 = .ok (.iload 5, 2) := by decide +kernel
theorem d_Mod_addItem_97 : decode prog_14_method_17_code 97 = .ok (.lconst 0, 1) := by decide +kernel
theorem d_Mod_addItem_98 : decode prog_14_method_17_code 98 = .ok (.lastore, 1) := by decide +kernel
theorem d_Mod_addItem_99 : decode prog_14_method_17_code 99 = .ok (.aload_n 0, 1) := by decide +kernel
theorem d_Mod_addItem_100 : decode prog_14_method_17_code 100 = .ok (.getfield 112, 3) := by decide +kernel
theorem d_Mod_addItem_103 : decode prog_14_method_17_code 103 = .ok (.iload 5, 2) := by decide +kernel
theorem d_Mod_addItem_105 : decode prog_14_method_17_code 105 = .ok (.lconst 0, 1) := by decide +kernel
theorem d_Mod_addItem_106 : decode prog_14_method_17_code 106 = .ok (.lastore, 1) := by decide +kernel
theorem d_Mod_addItem_107 : decode prog_14_method_17_code 107 = .ok (.aload_n 0, 1) := by decide +kernel
theorem d_Mod_addItem_108 : decode prog_14_method_17_code 108 = .ok (.getfield 75, 3) := by decide +kernel
theorem d_Mod_addItem_111 : decode prog_14_method_17_code 111 = .ok (.aload_n 0, 1) := by decide +kernel
theorem d_Mod_addItem_112 : decode prog_14_method_17_code 112 = .ok (.getfield 191, 3) := by decide +kernel
theorem d_Mod_addItem_115 : decode prog_14_method_17_code 115 = .ok (.dup2, 1) := by decide +kernel
theorem d_Mod_addItem_116 : decode prog_14_method_17_code 116 = .ok (.iaload, 1) := by decide +kernel
theorem d_Mod_addItem_117 : decode prog_14_method_17_code 117 = .ok (.iconst 1, 1) := by decide +kernel
theorem d_Mod_addItem_118 : decode prog_14_method_17_code 118 = .ok (.iadd, 1) := by decide +kernel
theorem d_Mod_addItem_119 : decode prog_14_method_17_code 119 = .ok (.iastore, 1) := by decide +kernel
theorem d_Mod_addItem_120 : decode prog_14_method_17_code 120 = .ok (.aload_n 0, 1) := by decide +kernel
theorem d_Mod_addItem_121 : decode prog_14_method_17_code 121 = .ok (.iload_n 1, 1) := by decide +kernel
theorem d_Mod_addItem_122 : decode prog_14_method_17_code 122 = .ok (.iconst 3, 1) := by decide +kernel
theorem d_Mod_addItem_123 : decode prog_14_method_17_code 123 = .ok (.if_icmp .ge 7, 3) := by decide +kernel
theorem d_Mod_addItem_126 : decode prog_14_method_17_code 126 = .ok (.iconst 1, 1) := by decide +kernel
theorem d_Mod_addItem_127 : decode prog_14_method_17_code 127 = .ok (.goto 4, 3) := by decide +kernel
theorem d_Mod_addItem_130 : decode prog_14_method_17_code 130 = .ok (.iconst 0, 1) := by decide +kernel
theorem d_Mod_addItem_131 : decode prog_14_method_17_code 131 = .ok (.putfield 197, 3) := by decide +kernel
theorem d_Mod_addItem_134 : decode prog_14_method_17_code 134 = .ok (.return_, 1) := by decide +kernel
theorem d_Mod_escaped_0 : decode prog_14_method_18_code 0 = .ok (.aload_n 0, 1) := by decide +kernel
theorem d_Mod_escaped_1 : decode prog_14_method_18_code 1 = .ok (.invokevirtual 200, 3) := by decide +kernel
theorem d_Mod_escaped_4 : decode prog_14_method_18_code 4 = .ok (.istore_n 2, 1) := by decide +kernel
theorem d_Mod_escaped_5 : decode prog_14_method_18_code 5 = .ok (.iload_n 2, 1) := by decide +kernel
theorem d_Mod_escaped_6 : decode prog_14_method_18_code 6 = .ok (.iconst (-1), 1) := by decide +kernel
theorem d_Mod_escaped_7 : decode prog_14_method_18_code 7 = .ok (.if_icmp .ne 40, 3) := by decide +kernel
theorem d_Mod_escaped_10 : decode prog_14_method_18_code 10 = .ok (.aload_n 0, 1) := by decide +kernel
theorem d_Mod_escaped_11 : decode prog_14_method_18_code 11 = .ok (.aload_n 0, 1) := by decide +kernel
theorem d_Mod_escaped_12 : decode prog_14_method_18_code 12 = .ok (.getfield 194, 3) := by decide +kernel
theorem d_Mod_escaped_15 : decode prog_14_method_18_code 15 = .ok (.bipush 14, 2) := by decide +kernel
theorem d_Mod_escaped_17 : decode prog_14_method_18_code 17 = .ok (.if_icmp .ne 22, 3) := by decide +kernel
theorem d_Mod_escaped_20 : decode prog_14_method_18_code 20 = .ok (.aload_n 0, 1) := by decide +kernel
theorem d_Mod_escaped_21 : decode prog_14_method_18_code 21 = .ok (.getfield 203, 3) := by decide +kernel
theorem d_Mod_escaped_24 : decode prog_14_method_18_code 24 = .ok (.ifCond .ne 15, 3) := by decide +kernel
theorem d_Mod_escaped_27 : decode prog_14_method_18_code 27 = .ok (.aload_n 0, 1) := by decide +kernel
theorem d_Mod_escaped_28 : decode prog_14_method_18_code 28 = .ok (.getfield 206, 3) := by decide +kernel
theorem d_Mod_escaped_31 : decode prog_14_method_18_code 31 = .ok (.iconst 3, 1) := by decide +kernel
theorem d_Mod_escaped_32 : decode prog_14_method_18_code 32 = .ok (.if_icmp .ne 7, 3) := by decide +kernel
theorem d_Mod_escaped_35 : decode prog_14_method_18_code 35 = .ok (.iload_n 1, 1) := by decide +kernel
theorem d_Mod_escaped_36 : decode prog_14_method_18_code 36 = .ok (.goto 7, 3) := by decide +kernel
theorem d_Mod_escaped_39 : decode prog_14_method_18_code 39 = .ok (.aload_n 0, 1) := by decide +kernel
theorem d_Mod_escaped_40 : decode prog_14_method_18_code 40 = .ok (.getfield 166, 3) := by decide +kernel
theorem d_Mod_escaped_43 : decode prog_14_method_18_code 43 = .ok (.invokevirtual 187, 3) := by decide +kernel
theorem d_Mod_escaped_46 : decode prog_14_method_18_code 46 = .ok (.return_, 1) := by decide +kernel
theorem d_Mod_escaped_47 : decode prog_14_method_18_code 47 = .ok (.iload_n 2, 1) := by decide +kernel
theorem d_Mod_escaped_48 : decode prog_14_method_18_code 48 = .ok (.bipush 40, 2) := by decide +kernel
theorem d_Mod_escaped_50 : decode prog_14_method_18_code 50 = .ok (.if_icmp .ne 56, 3) := by decide +kernel
theorem d_Mod_escaped_53 : decode prog_14_method_18_code 53 = .ok (.aload_n 0, 1) := by decide +kernel
theorem d_Mod_escaped_54 : decode prog_14_method_18_code 54 = .ok (.getfield 203, 3) := by decide +kernel
theorem d_Mod_escaped_57 : decode prog_14_method_18_code 57 = .ok (.ifCond .ne 11, 3) := by decide +kernel
theorem d_Mod_escaped_60 : decode prog_14_method_18_code 60 = .ok (.aload_n 0, 1) := by decide +kernel
theorem d_Mod_escaped_61 : decode prog_14_method_18_code 61 = .ok (.getfield 206, 3) := by decide +kernel
theorem d_Mod_escaped_64 : decode prog_14_method_18_code 64 = .ok (.iconst 3, 1) := by decide +kernel
theorem d_Mod_escaped_65 : decode prog_14_method_18_code 65 = .ok (.if_icmp .ne 11, 3) := by decide +kernel
theorem d_Mod_escaped_68 : decode prog_14_method_18_code 68 = .ok (.aload_n 0, 1) := by decide +kernel
theorem d_Mod_escaped_69 : decode prog_14_method_18_code 69 = .ok (.iload_n 1, 1) := by decide +kernel
theorem d_Mod_escaped_70 : decode prog_14_method_18_code 70 = .ok (.invokevirtual 187, 3) := by decide +kernel
theorem d_Mod_escaped_73 : decode prog_14_method_18_code 73 = .ok (.goto 190, 3) := by decide +kernel
theorem d_Mod_escaped_76 : decode prog_14_method_18_code 76 = .ok (.aload_n 0, 1) := by decide +kernel
theorem d_Mod_escaped_77 : decode prog_14_method_18_code 77 = .ok (.iconst 4, 1) := by decide +kernel
theorem d_Mod_escaped_78 : decode prog_14_method_18_code 78 = .ok (.aload_n 0, 1) := by decide +kernel
theorem d_Mod_escaped_79 : decode prog_14_method_18_code 79 = .ok (.getfield 206, 3) := by decide +kernel
theorem d_Mod_escaped_82 : decode prog_14_method_18_code 82 = .ok (.iconst 1, 1) := by decide +kernel
theorem d_Mod_escaped_83 : decode prog_14_method_18_code 83 = .ok (.iadd, 1) := by decide +kernel
theorem d_Mod_escaped_84 : decode prog_14_method_18_code 84 = .ok (.iload_n 1, 1) := by decide +kernel
theorem d_Mod_escaped_85 : decode prog_14_method_18_code 85 = .ok (.invokevirtual 209, 3) := by decide +kernel
theorem d_Mod_escaped_88 : decode prog_14_method_18_code 88 = .ok (.aload_n 0, 1) := by decide +kernel
theorem d_Mod_escaped_89 : decode prog_14_method_18_code 89 = .ok (.iconst 1, 1) := by decide +kernel
theorem d_Mod_escaped_90 : decode prog_14_method_18_code 90 = .ok (.putfield 203, 3) := by decide +kernel
theorem d_Mod_escaped_93 : decode prog_14_method_18_code 93 = .ok (.aload_n 0, 1) := by decide +kernel
theorem d_Mod_escaped_94 : decode prog_14_method_18_code 94 = .ok (.dup, 1) := by decide +kernel
theorem d_Mod_escaped_95 : decode prog_14_method_18_code 95 = .ok (.getfield 206, 3) := by decide +kernel
theorem d_Mod_escaped_98 : decode prog_14_method_18_code 98 = .ok (.iconst 1, 1) := by decide +kernel
theorem d_Mod_escaped_99 : decode prog_14_method_18_code 99 = .ok (.iadd, 1) := by decide +kernel
theorem d_Mod_escaped_100 : decode prog_14_method_18_code 100 = .ok (.putfield 206, 3) := by decide +kernel
theorem d_Mod_escaped_103 : decode prog_14_method_18_code 103 = .ok (.goto 160, 3) := by decide +kernel
theorem d_Mod_escaped_106 : decode prog_14_method_18_code 106 = .ok (.iload_n 2, 1) := by decide +kernel
theorem d_Mod_escaped_107 : decode prog_14_method_18_code 107 = .ok (.bipush 41, 2) := by decide +kernel
theorem d_Mod_escaped_109 : decode prog_14_method_18_code 109 = .ok (.if_icmp .ne 36, 3) := by decide +kernel
theorem d_Mod_escaped_112 : decode prog_14_method_18_code 112 = .ok (.aload_n 0, 1) := by decide +kernel
theorem d_Mod_escaped_113 : decode prog_14_method_18_code 113 = .ok (.getfield 203, 3) := by decide +kernel
theorem d_Mod_escaped_116 : decode prog_14_method_18_code 116 = .ok (.ifCond .ne 11, 3) := by decide +kernel
theorem d_Mod_escaped_119 : decode prog_14_method_18_code 119 = .ok (.aload_n 0, 1) := by decide +kernel
theorem d_Mod_escaped_120 : decode prog_14_method_18_code 120 = .ok (.iload_n 1, 1) := by decide +kernel
theorem d_Mod_escaped_121 : decode prog_14_method_18_code 121 = .ok (.invokevirtual 187, 3) := by decide +kernel
theorem d_Mod_escaped_124 : decode prog_14_method_18_code 124 = .ok (.goto 13, 3) := by decide +kernel
theorem d_Mod_escaped_127 : decode prog_14_method_18_code 127 = .ok (.aload_n 0, 1) := by decide +kernel
theorem d_Mod_escaped_128 : decode prog_14_method_18_code 128 = .ok (.iconst 5, 1) := by decide +kernel
theorem d_Mod_escaped_129 : decode prog_14_method_18_code 129 = .ok (.aload_n 0, 1) := by decide +kernel
theorem d_Mod_escaped_130 : decode prog_14_method_18_code 130 = .ok (.getfield 206, 3) := by decide +kernel
theorem d_Mod_escaped_133 : decode prog_14_method_18_code 133 = .ok (.iload_n 1, 1) := by decide +kernel
theorem d_Mod_escaped_134 : decode prog_14_method_18_code 134 = .ok (.invokevirtual 209, 3) := by decide +kernel
theorem d_Mod_escaped_137 : decode prog_14_method_18_code 137 = .ok (.aload_n 0, 1) := by decide +kernel
theorem d_Mod_escaped_138 : decode prog_14_method_18_code 138 = .ok (.iconst 0, 1) := by decide +kernel
theorem d_Mod_escaped_139 : decode prog_14_method_18_code 139 = .ok (.putfield 203, 3) := by decide +kernel
theorem d_Mod_escaped_142 : decode prog_14_method_18_code 142 = .ok (.goto 121, 3) := by decide +kernel
theorem d_Mod_escaped_145 : decode prog_14_method_18_code 145 = .ok (.iload_n 2, 1) := by decide +kernel
theorem d_Mod_escaped_146 : decode prog_14_method_18_code 146 = .ok (.bipush 49, 2) := by decide +kernel
theorem d_Mod_escaped_148 : decode prog_14_method_18_code 148 = .ok (.bipush 51, 2) := by decide +kernel
theorem d_Mod_escaped_150 : decode prog_14_method_18_code 150 = .ok (.invokestatic 154, 3) := by decide +kernel
theorem d_Mod_escaped_153 : decode prog_14_method_18_code 153 = .ok (.ifCond .eq 53, 3) := by decide +kernel
theorem d_Mod_escaped_156 : decode prog_14_method_18_code 156 = .ok (.iload_n 2, 1) := by decide +kernel
theorem d_Mod_escaped_157 : decode prog_14_method_18_code 157 = .ok (.bipush 48, 2) := by decide +kernel
theorem d_Mod_escaped_159 : decode prog_14_method_18_code 159 = .ok (.isub, 1) := by decide +kernel
theorem d_Mod_escaped_160 : decode prog_14_method_18_code 160 = .ok (.aload_n 0, 1) := by decide +kernel
theorem d_Mod_escaped_161 : decode prog_14_method_18_code 161 = .ok (.getfield 206, 3) := by decide +kernel
theorem d_Mod_escaped_164 : decode prog_14_method_18_code 164 = .ok (.if_icmp .gt 21, 3) := by decide +kernel
theorem d_Mod_escaped_167 : decode prog_14_method_18_code 167 = .ok (.iload_n 2, 1) := by decide +kernel
theorem d_Mod_escaped_168 : decode prog_14_method_18_code 168 = .ok (.bipush 48, 2) := by decide +kernel
theorem d_Mod_escaped_170 : decode prog_14_method_18_code 170 = .ok (.isub, 1) := by decide +kernel
theorem d_Mod_escaped_171 : decode prog_14_method_18_code 171 = .ok (.aload_n 0, 1) := by decide +kernel
theorem d_Mod_escaped_172 : decode prog_14_method_18_code 172 = .ok (.getfield 206, 3) := by decide +kernel
theorem d_Mod_escaped_175 : decode prog_14_method_18_code 175 = .ok (.if_icmp .ne 18, 3) := by decide +kernel
theorem d_Mod_escaped_178 : decode prog_14_method_18_code 178 = .ok (.aload_n 0, 1) := by decide +kernel
theorem d_Mod_escaped_179 : decode prog_14_method_18_code 179 = .ok (.getfield 203, 3) := by decide +kernel
theorem d_Mod_escaped_182 : decode prog_14_method_18_code 182 = .ok (.ifCond .eq 11, 3) := by decide +kernel
theorem d_Mod_escaped_185 : decode prog_14_method_18_code 185 = .ok (.aload_n 0, 1) := by decide +kernel
theorem d_Mod_escaped_186 : decode prog_14_method_18_code 186 = .ok (.iload_n 1, 1) := by decide +kernel
theorem d_Mod_escaped_187 : decode prog_14_method_18_code 187 = .ok (.invokevirtual 187, 3) := by decide +kernel
theorem d_Mod_escaped_190 : decode prog_14_method_18_code 190 = .ok (.goto 73, 3) := by decide +kernel
theorem d_Mod_escaped_193 : decode prog_14_method_18_code 193 = .ok (.aload_n 0, 1) := by decide +kernel
theorem d_Mod_escaped_194 : decode prog_14_method_18_code 194 = .ok (.iconst 3, 1) := by decide +kernel
theorem d_Mod_escaped_195 : decode prog_14_method_18_code 195 = .ok (.iload_n 2, 1) := by decide +kernel
theorem d_Mod_escaped_196 : decode prog_14_method_18_code 196 = .ok (.bipush 48, 2) := by decide +kernel
theorem d_Mod_escaped_198 : decode prog_14_method_18_code 198 = .ok (.isub, 1) := by decide +kernel
theorem d_Mod_escaped_199 : decode prog_14_method_18_code 199 = .ok (.iload_n 1, 1) := by decide +kernel
theorem d_Mod_escaped_200 : decode prog_14_method_18_code 200 = .ok (.invokevirtual 209, 3) := by decide +kernel
theorem d_Mod_escaped_203 : decode prog_14_method_18_code 203 = .ok (.goto 60, 3) := by decide +kernel
theorem d_Mod_escaped_206 : decode prog_14_method_18_code 206 = .ok (.iload_n 2, 1) := by decide +kernel
theorem d_Mod_escaped_207 : decode prog_14_method_18_code 207 = .ok (.bipush 47, 2) := by decide +kernel
theorem d_Mod_escaped_209 : decode prog_14_method_18_code 209 = .ok (.if_icmp .eq 39, 3) := by decide +kernel
theorem d_Mod_escaped_212 : decode prog_14_method_18_code 212 = .ok (.iload_n 2, 1) := by decide +kernel
theorem d_Mod_escaped_213 : decode prog_14_method_18_code 213 = .ok (.bipush 92, 2) := by decide +kernel
theorem d_Mod_escaped_215 : decode prog_14_method_18_code 215 = .ok (.if_icmp .eq 33, 3) := by decide +kernel
theorem d_Mod_escaped_218 : decode prog_14_method_18_code 218 = .ok (.iload_n 2, 1) := by decide +kernel
theorem d_Mod_escaped_219 : decode prog_14_method_18_code 219 = .ok (.bipush 91, 2) := by decide +kernel
theorem d_Mod_escaped_221 : decode prog_14_method_18_code 221 = .ok (.if_icmp .eq 27, 3) := by decide +kernel
theorem d_Mod_escaped_224 : decode prog_14_method_18_code 224 = .ok (.iload_n 2, 1) := by decide +kernel
theorem d_Mod_escaped_225 : decode prog_14_method_18_code 225 = .ok (.bipush 42, 2) := by decide +kernel
theorem d_Mod_escaped_227 : decode prog_14_method_18_code 227 = .ok (.if_icmp .eq 21, 3) := by decide +kernel
theorem d_Mod_escaped_230 : decode prog_14_method_18_code 230 = .ok (.iload_n 2, 1) := by decide +kernel
theorem d_Mod_escaped_231 : decode prog_14_method_18_code 231 = .ok (.bipush 46, 2) := by decide +kernel
theorem d_Mod_escaped_233 : decode prog_14_method_18_code 233 = .ok (.if_icmp .eq 15, 3) := by decide +kernel
theorem d_Mod_escaped_236 : decode prog_14_method_18_code 236 = .ok (.iload_n 2, 1) := by decide +kernel
theorem d_Mod_escaped_237 : decode prog_14_method_18_code 237 = .ok (.bipush 94, 2) := by decide +kernel
theorem d_Mod_escaped_239 : decode prog_14_method_18_code 239 = .ok (.if_icmp .eq 9, 3) := by decide +kernel
theorem d_Mod_escaped_242 : decode prog_14_method_18_code 242 = .ok (.iload_n 2, 1) := by decide +kernel
theorem d_Mod_escaped_243 : decode prog_14_method_18_code 243 = .ok (.bipush 36, 2) := by decide +kernel
theorem d_Mod_escaped_245 : decode prog_14_method_18_code 245 = .ok (.if_icmp .ne 13, 3) := by decide +kernel
theorem d_Mod_escaped_248 : decode prog_14_method_18_code 248 = .ok (.aload_n 0, 1) := by decide +kernel
theorem d_Mod_escaped_249 : decode prog_14_method_18_code 249 = .ok (.iconst 0, 1) := by decide +kernel
theorem d_Mod_escaped_250 : decode prog_14_method_18_code 250 = .ok (.iload_n 2, 1) := by decide +kernel
theorem d_Mod_escaped_251 : decode prog_14_method_18_code 251 = .ok (.iload_n 1, 1) := by decide +kernel
theorem d_Mod_escaped_252 : decode prog_14_method_18_code 252 = .ok (.invokevirtual 209, 3) := by decide +kernel
theorem d_Mod_escaped_255 : decode prog_14_method_18_code 255 = .ok (.goto 8, 3) := by decide +kernel
theorem d_Mod_escaped_258 : decode prog_14_method_18_code 258 = .ok (.aload_n 0, 1) := by decide +kernel
theorem d_Mod_escaped_259 : decode prog_14_method_18_code 259 = .ok (.iload_n 1, 1) := by decide +kernel
theorem d_Mod_escaped_260 : decode prog_14_method_18_code 260 = .ok (.invokevirtual 187, 3) := by decide +kernel
theorem d_Mod_escaped_263 : decode prog_14_method_18_code 263 = .ok (.aload_n 0, 1) := by decide +kernel
theorem d_Mod_escaped_264 : decode prog_14_method_18_code 264 = .ok (.dup, 1) := by decide +kernel
theorem d_Mod_escaped_265 : decode prog_14_method_18_code 265 = .ok (.getfield 176, 3) := by decide +kernel
theorem d_Mod_escaped_268 : decode prog_14_method_18_code 268 = .ok (.iconst 2, 1) := by decide +kernel
theorem d_Mod_escaped_269 : decode prog_14_method_18_code 269 = .ok (.iadd, 1) := by decide +kernel
theorem d_Mod_escaped_270 : decode prog_14_method_18_code 270 = .ok (.putfield 176, 3) := by decide +kernel
theorem d_Mod_escaped_273 : decode prog_14_method_18_code 273 = .ok (.return_, 1) := by decide +kernel
theorem d_Mod_put_0 : decode prog_14_method_19_code 0 = .ok (.iload_n 2, 1) := by decide +kernel
theorem d_Mod_put_1 : decode prog_14_method_19_code 1 = .ok (.istore 4, 2) := by decide +kernel
theorem d_Mod_put_3 : decode prog_14_method_19_code 3 = .ok (.iload 4, 2) := by decide +kernel
theorem d_Mod_put_5 : decode prog_14_method_19_code 5 = .ok (.iload_n 3, 1) := by decide +kernel
theorem d_Mod_put_6 : decode prog_14_method_19_code 6 = .ok (.if_icmp .gt 48, 3) := by decide +kernel
theorem d_Mod_put_9 : decode prog_14_method_19_code 9 = .ok (.iload 4, 2) := by decide +kernel
theorem d_Mod_put_11 : decode prog_14_method_19_code 11 = .ok (.bipush 64, 2) := by decide +kernel
theorem d_Mod_put_13 : decode prog_14_method_19_code 13 = .ok (.if_icmp .ge 19, 3) := by decide +kernel
theorem d_Mod_put_16 : decode prog_14_method_19_code 16 = .ok (.aload_n 0, 1) := by decide +kernel
theorem d_Mod_put_17 : decode prog_14_method_19_code 17 = .ok (.getfield 108, 3) := by decide +kernel
theorem d_Mod_put_20 : decode prog_14_method_19_code 20 = .ok (.iload_n 1, 1) := by decide +kernel
theorem d_Mod_put_21 : decode prog_14_method_19_code 21 = .ok (.dup2, 1) := by decide +kernel
theorem d_Mod_put_22 : decode prog_14_method_19_code 22 = .ok (.laload, 1) := by decide +kernel
theorem d_Mod_put_23 : decode prog_14_method_19_code 23 = .ok (.lconst 1, 1) := by decide +kernel
theorem d_Mod_put_24 : decode prog_14_method_19_code 24 = .ok (.iload 4, 2) := by decide +kernel
theorem d_Mod_put_26 : decode prog_14_method_19_code 26 = .ok (.lshl, 1) := by decide +kernel
theorem d_Mod_put_27 : decode prog_14_method_19_code 27 = .ok (.lor, 1) := by decide +kernel
theorem d_Mod_put_28 : decode prog_14_method_19_code 28 = .ok (.lastore, 1) := by decide +kernel
theorem d_Mod_put_29 : decode prog_14_method_19_code 29 = .ok (.goto 19, 3) := by decide +kernel
theorem d_Mod_put_32 : decode prog_14_method_19_code 32 = .ok (.aload_n 0, 1) := by decide +kernel
theorem d_Mod_put_33 : decode prog_14_method_19_code 33 = .ok (.getfield 112, 3) := by decide +kernel
theorem d_Mod_put_36 : decode prog_14_method_19_code 36 = .ok (.iload_n 1, 1) := by decide +kernel
theorem d_Mod_put_37 : decode prog_14_method_19_code 37 = .ok (.dup2, 1) := by decide +kernel
theorem d_Mod_put_38 : decode prog_14_method_19_code 38 = .ok (.laload, 1) := by decide +kernel
theorem d_Mod_put_39 : decode prog_14_method_19_code 39 = .ok (.lconst 1, 1) := by decide +kernel
theorem d_Mod_put_40 : decode prog_14_method_19_code 40 = .ok (.iload 4, 2) := by decide +kernel
theorem d_Mod_put_42 : decode prog_14_method_19_code 42 = .ok (.bipush 64, 2) := by decide +kernel
theorem d_Mod_put_44 : decode prog_14_method_19_code 44 = .ok (.isub, 1) := by decide +kernel
theorem d_Mod_put_45 : decode prog_14_method_19_code 45 = .ok (.lshl, 1) := by decide +kernel
theorem d_Mod_put_46 : decode prog_14_method_19_code 46 = .ok (.lor, 1) := by decide +kernel
theorem d_Mod_put_47 : decode prog_14_method_19_code 47 = .ok (.lastore, 1) := by decide +kernel
theorem d_Mod_put_48 : decode prog_14_method_19_code 48 = .ok (.iinc 4 1, 3) := by decide +kernel
theorem d_Mod_put_51 : decode prog_14_method_19_code 51 = .ok (.goto (-48), 3) := by decide +kernel
theorem d_Mod_put_54 : decode prog_14_method_19_code 54 = .ok (.return_, 1) := by decide +kernel
