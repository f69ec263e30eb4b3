theorem d_Law_script_0 : decode method_3_code 0 = .ok (.aload_n 3, 1) := by decide +kernel
theorem d_Law_script_1 : decode method_3_code 1 = .ok (.iconst 0, 1) := by decide +kernel
theorem d_Law_script_2 : decode method_3_code 2 = .ok (.aload_n 0, 1) := by decide +kernel
theorem d_Law_script_3 : decode method_3_code 3 = .ok (.lload_n 1, 1) := by decide +kernel
theorem d_Law_script_4 : decode method_3_code 4 = .ok (.invokevirtual 7, 3) := by decide +kernel
theorem d_Law_script_7 : decode method_3_code 7 = .ok (.i2l, 1) := by decide +kernel
theorem d_Law_script_8 : decode method_3_code 8 = .ok (.lastore, 1) := by decide +kernel
theorem d_Law_script_9 : decode method_3_code 9 = .ok (.goto 11, 3) := by decide +kernel
theorem d_Law_script_12 : decode method_3_code 12 = .ok (.astore 4, 2) := by decide +kernel
theorem d_Law_script_14 : decode method_3_code 14 = .ok (.iconst 1, 1) := by decide +kernel
theorem d_Law_script_15 : decode method_3_code 15 = .ok (.ireturn, 1) := by decide +kernel
theorem d_Law_script_16 : decode method_3_code 16 = .ok (.astore 4, 2) := by decide +kernel
theorem d_Law_script_18 : decode method_3_code 18 = .ok (.iconst 2, 1) := by decide +kernel
theorem d_Law_script_19 : decode method_3_code 19 = .ok (.ireturn, 1) := by decide +kernel
theorem d_Law_script_20 : decode method_3_code 20 = .ok (.iconst 0, 1) := by decide +kernel
theorem d_Law_script_21 : decode method_3_code 21 = .ok (.ireturn, 1) := by decide +kernel
theorem d_Law_clear_0 : decode method_4_code 0 = .ok (.aload_n 2, 1) := by decide +kernel
theorem d_Law_clear_1 : decode method_4_code 1 = .ok (.iconst 0, 1) := by decide +kernel
theorem d_Law_clear_2 : decode method_4_code 2 = .ok (.aload_n 0, 1) := by decide +kernel
theorem d_Law_clear_3 : decode method_4_code 3 = .ok (.iload_n 1, 1) := by decide +kernel
theorem d_Law_clear_4 : decode method_4_code 4 = .ok (.invokevirtual 17, 3) := by decide +kernel
theorem d_Law_clear_7 : decode method_4_code 7 = .ok (.i2l, 1) := by decide +kernel
theorem d_Law_clear_8 : decode method_4_code 8 = .ok (.lastore, 1) := by decide +kernel
theorem d_Law_clear_9 : decode method_4_code 9 = .ok (.goto 6, 3) := by decide +kernel
theorem d_Law_clear_12 : decode method_4_code 12 = .ok (.astore_n 3, 1) := by decide +kernel
theorem d_Law_clear_13 : decode method_4_code 13 = .ok (.iconst 1, 1) := by decide +kernel
theorem d_Law_clear_14 : decode method_4_code 14 = .ok (.ireturn, 1) := by decide +kernel
theorem d_Law_clear_15 : decode method_4_code 15 = .ok (.iconst 0, 1) := by decide +kernel
theorem d_Law_clear_16 : decode method_4_code 16 = .ok (.ireturn, 1) := by decide +kernel
theorem d_Law_parse_0 : decode method_5_code 0 = .ok (.aload_n 1, 1) := by decide +kernel
theorem d_Law_parse_1 : decode method_5_code 1 = .ok (.iconst 0, 1) := by decide +kernel
theorem d_Law_parse_2 : decode method_5_code 2 = .ok (.aload_n 0, 1) := by decide +kernel
theorem d_Law_parse_3 : decode method_5_code 3 = .ok (.invokevirtual 21, 3) := by decide +kernel
theorem d_Law_parse_6 : decode method_5_code 6 = .ok (.i2l, 1) := by decide +kernel
theorem d_Law_parse_7 : decode method_5_code 7 = .ok (.lastore, 1) := by decide +kernel
theorem d_Law_parse_8 : decode method_5_code 8 = .ok (.goto 6, 3) := by decide +kernel
theorem d_Law_parse_11 : decode method_5_code 11 = .ok (.astore_n 2, 1) := by decide +kernel
theorem d_Law_parse_12 : decode method_5_code 12 = .ok (.iconst 1, 1) := by decide +kernel
theorem d_Law_parse_13 : decode method_5_code 13 = .ok (.ireturn, 1) := by decide +kernel
theorem d_Law_parse_14 : decode method_5_code 14 = .ok (.iconst 0, 1) := by decide +kernel
theorem d_Law_parse_15 : decode method_5_code 15 = .ok (.ireturn, 1) := by decide +kernel
theorem d_Law_line_0 : decode method_6_code 0 = .ok (.aload 5, 2) := by decide +kernel
theorem d_Law_line_2 : decode method_6_code 2 = .ok (.iconst 0, 1) := by decide +kernel
theorem d_Law_line_3 : decode method_6_code 3 = .ok (.aload_n 0, 1) := by decide +kernel
theorem d_Law_line_4 : decode method_6_code 4 = .ok (.lload_n 1, 1) := by decide +kernel
theorem d_Law_line_5 : decode method_6_code 5 = .ok (.lload_n 3, 1) := by decide +kernel
theorem d_Law_line_6 : decode method_6_code 6 = .ok (.invokevirtual 25, 3) := by decide +kernel
theorem d_Law_line_9 : decode method_6_code 9 = .ok (.i2l, 1) := by decide +kernel
theorem d_Law_line_10 : decode method_6_code 10 = .ok (.lastore, 1) := by decide +kernel
theorem d_Law_line_11 : decode method_6_code 11 = .ok (.goto 11, 3) := by decide +kernel
theorem d_Law_line_14 : decode method_6_code 14 = .ok (.astore 6, 2) := by decide +kernel
theorem d_Law_line_16 : decode method_6_code 16 = .ok (.iconst 1, 1) := by decide +kernel
theorem d_Law_line_17 : decode method_6_code 17 = .ok (.ireturn, 1) := by decide +kernel
theorem d_Law_line_18 : decode method_6_code 18 = .ok (.astore 6, 2) := by decide +kernel
theorem d_Law_line_20 : decode method_6_code 20 = .ok (.iconst 2, 1) := by decide +kernel
theorem d_Law_line_21 : decode method_6_code 21 = .ok (.ireturn, 1) := by decide +kernel
theorem d_Law_line_22 : decode method_6_code 22 = .ok (.iconst 0, 1) := by decide +kernel
theorem d_Law_line_23 : decode method_6_code 23 = .ok (.ireturn, 1) := by decide +kernel
theorem d_Law_more_0 : decode method_7_code 0 = .ok (.aload_n 3, 1) := by decide +kernel
theorem d_Law_more_1 : decode method_7_code 1 = .ok (.iconst 0, 1) := by decide +kernel
theorem d_Law_more_2 : decode method_7_code 2 = .ok (.aload_n 0, 1) := by decide +kernel
theorem d_Law_more_3 : decode method_7_code 3 = .ok (.lload_n 1, 1) := by decide +kernel
theorem d_Law_more_4 : decode method_7_code 4 = .ok (.invokevirtual 29, 3) := by decide +kernel
theorem d_Law_more_7 : decode method_7_code 7 = .ok (.i2l, 1) := by decide +kernel
theorem d_Law_more_8 : decode method_7_code 8 = .ok (.lastore, 1) := by decide +kernel
theorem d_Law_more_9 : decode method_7_code 9 = .ok (.goto 11, 3) := by decide +kernel
theorem d_Law_more_12 : decode method_7_code 12 = .ok (.astore 4, 2) := by decide +kernel
theorem d_Law_more_14 : decode method_7_code 14 = .ok (.iconst 1, 1) := by decide +kernel
theorem d_Law_more_15 : decode method_7_code 15 = .ok (.ireturn, 1) := by decide +kernel
theorem d_Law_more_16 : decode method_7_code 16 = .ok (.astore 4, 2) := by decide +kernel
theorem d_Law_more_18 : decode method_7_code 18 = .ok (.iconst 2, 1) := by decide +kernel
theorem d_Law_more_19 : decode method_7_code 19 = .ok (.ireturn, 1) := by decide +kernel
theorem d_Law_more_20 : decode method_7_code 20 = .ok (.iconst 0, 1) := by decide +kernel
theorem d_Law_more_21 : decode method_7_code 21 = .ok (.ireturn, 1) := by decide +kernel
theorem d_Law_run_0 : decode method_8_code 0 = .ok (.aload_n 1, 1) := by decide +kernel
theorem d_Law_run_1 : decode method_8_code 1 = .ok (.iconst 0, 1) := by decide +kernel
theorem d_Law_run_2 : decode method_8_code 2 = .ok (.aload_n 0, 1) := by decide +kernel
theorem d_Law_run_3 : decode method_8_code 3 = .ok (.invokevirtual 32, 3) := by decide +kernel
theorem d_Law_run_6 : decode method_8_code 6 = .ok (.i2l, 1) := by decide +kernel
theorem d_Law_run_7 : decode method_8_code 7 = .ok (.lastore, 1) := by decide +kernel
theorem d_Law_run_8 : decode method_8_code 8 = .ok (.goto 12, 3) := by decide +kernel
theorem d_Law_run_11 : decode method_8_code 11 = .ok (.astore_n 2, 1) := by decide +kernel
theorem d_Law_run_12 : decode method_8_code 12 = .ok (.iconst 1, 1) := by decide +kernel
theorem d_Law_run_13 : decode method_8_code 13 = .ok (.ireturn, 1) := by decide +kernel
theorem d_Law_run_14 : decode method_8_code 14 = .ok (.astore_n 2, 1) := by decide +kernel
theorem d_Law_run_15 : decode method_8_code 15 = .ok (.iconst 2, 1) := by decide +kernel
theorem d_Law_run_16 : decode method_8_code 16 = .ok (.ireturn, 1) := by decide +kernel
theorem d_Law_run_17 : decode method_8_code 17 = .ok (.astore_n 2, 1) := by decide +kernel
theorem d_Law_run_18 : decode method_8_code 18 = .ok (.iconst 3, 1) := by decide +kernel
theorem d_Law_run_19 : decode method_8_code 19 = .ok (.ireturn, 1) := by decide +kernel
theorem d_Law_run_20 : decode method_8_code 20 = .ok (.iconst 0, 1) := by decide +kernel
theorem d_Law_run_21 : decode method_8_code 21 = .ok (.ireturn, 1) := by decide +kernel
theorem d_Law_out_0 : decode method_9_code 0 = .ok (.aload_n 2, 1) := by decide +kernel
theorem d_Law_out_1 : decode method_9_code 1 = .ok (.iconst 0, 1) := by decide +kernel
theorem d_Law_out_2 : decode method_9_code 2 = .ok (.aload_n 0, 1) := by decide +kernel
theorem d_Law_out_3 : decode method_9_code 3 = .ok (.iload_n 1, 1) := by decide +kernel
theorem d_Law_out_4 : decode method_9_code 4 = .ok (.invokevirtual 39, 3) := by decide +kernel
theorem d_Law_out_7 : decode method_9_code 7 = .ok (.i2l, 1) := by decide +kernel
theorem d_Law_out_8 : decode method_9_code 8 = .ok (.lastore, 1) := by decide +kernel
theorem d_Law_out_9 : decode method_9_code 9 = .ok (.goto 6, 3) := by decide +kernel
theorem d_Law_out_12 : decode method_9_code 12 = .ok (.astore_n 3, 1) := by decide +kernel
theorem d_Law_out_13 : decode method_9_code 13 = .ok (.iconst 1, 1) := by decide +kernel
theorem d_Law_out_14 : decode method_9_code 14 = .ok (.ireturn, 1) := by decide +kernel
theorem d_Law_out_15 : decode method_9_code 15 = .ok (.iconst 0, 1) := by decide +kernel
theorem d_Law_out_16 : decode method_9_code 16 = .ok (.ireturn, 1) := by decide +kernel
theorem d_Law_ran_0 : decode method_10_code 0 = .ok (.aload_n 2, 1) := by decide +kernel
theorem d_Law_ran_1 : decode method_10_code 1 = .ok (.iconst 0, 1) := by decide +kernel
theorem d_Law_ran_2 : decode method_10_code 2 = .ok (.aload_n 0, 1) := by decide +kernel
theorem d_Law_ran_3 : decode method_10_code 3 = .ok (.iload_n 1, 1) := by decide +kernel
theorem d_Law_ran_4 : decode method_10_code 4 = .ok (.invokevirtual 42, 3) := by decide +kernel
theorem d_Law_ran_7 : decode method_10_code 7 = .ok (.i2l, 1) := by decide +kernel
theorem d_Law_ran_8 : decode method_10_code 8 = .ok (.lastore, 1) := by decide +kernel
theorem d_Law_ran_9 : decode method_10_code 9 = .ok (.goto 6, 3) := by decide +kernel
theorem d_Law_ran_12 : decode method_10_code 12 = .ok (.astore_n 3, 1) := by decide +kernel
theorem d_Law_ran_13 : decode method_10_code 13 = .ok (.iconst 1, 1) := by decide +kernel
theorem d_Law_ran_14 : decode method_10_code 14 = .ok (.ireturn, 1) := by decide +kernel
theorem d_Law_ran_15 : decode method_10_code 15 = .ok (.iconst 0, 1) := by decide +kernel
theorem d_Law_ran_16 : decode method_10_code 16 = .ok (.ireturn, 1) := by decide +kernel
theorem d_Law_match_0 : decode method_11_code 0 = .ok (.aload 4, 2) := by decide +kernel
theorem d_Law_match_2 : decode method_11_code 2 = .ok (.iconst 0, 1) := by decide +kernel
theorem d_Law_match_3 : decode method_11_code 3 = .ok (.aload_n 0, 1) := by decide +kernel
theorem d_Law_match_4 : decode method_11_code 4 = .ok (.iload_n 1, 1) := by decide +kernel
theorem d_Law_match_5 : decode method_11_code 5 = .ok (.iload_n 2, 1) := by decide +kernel
theorem d_Law_match_6 : decode method_11_code 6 = .ok (.iload_n 3, 1) := by decide +kernel
theorem d_Law_match_7 : decode method_11_code 7 = .ok (.invokevirtual 45, 3) := by decide +kernel
theorem d_Law_match_10 : decode method_11_code 10 = .ok (.i2l, 1) := by decide +kernel
theorem d_Law_match_11 : decode method_11_code 11 = .ok (.lastore, 1) := by decide +kernel
theorem d_Law_match_12 : decode method_11_code 12 = .ok (.goto 15, 3) := by decide +kernel
theorem d_Law_match_15 : decode method_11_code 15 = .ok (.astore 5, 2) := by decide +kernel
theorem d_Law_match_17 : decode method_11_code 17 = .ok (.iconst 1, 1) := by decide +kernel
theorem d_Law_match_18 : decode method_11_code 18 = .ok (.ireturn, 1) := by decide +kernel
theorem d_Law_match_19 : decode method_11_code 19 = .ok (.astore 5, 2) := by decide +kernel
theorem d_Law_match_21 : decode method_11_code 21 = .ok (.iconst 2, 1) := by decide +kernel
theorem d_Law_match_22 : decode method_11_code 22 = .ok (.ireturn, 1) := by decide +kernel
theorem d_Law_match_23 : decode method_11_code 23 = .ok (.astore 5, 2) := by decide +kernel
theorem d_Law_match_25 : decode method_11_code 25 = .ok (.iconst 3, 1) := by decide +kernel
theorem d_Law_match_26 : decode method_11_code 26 = .ok (.ireturn, 1) := by decide +kernel
theorem d_Law_match_27 : decode method_11_code 27 = .ok (.iconst 0, 1) := by decide +kernel
theorem d_Law_match_28 : decode method_11_code 28 = .ok (.ireturn, 1) := by decide +kernel
theorem d_Law_count_0 : decode method_12_code 0 = .ok (.aload_n 2, 1) := by decide +kernel
theorem d_Law_count_1 : decode method_12_code 1 = .ok (.iconst 0, 1) := by decide +kernel
theorem d_Law_count_2 : decode method_12_code 2 = .ok (.aload_n 0, 1) := by decide +kernel
theorem d_Law_count_3 : decode method_12_code 3 = .ok (.iload_n 1, 1) := by decide +kernel
theorem d_Law_count_4 : decode method_12_code 4 = .ok (.invokevirtual 49, 3) := by decide +kernel
theorem d_Law_count_7 : decode method_12_code 7 = .ok (.i2l, 1) := by decide +kernel
theorem d_Law_count_8 : decode method_12_code 8 = .ok (.lastore, 1) := by decide +kernel
theorem d_Law_count_9 : decode method_12_code 9 = .ok (.goto 6, 3) := by decide +kernel
theorem d_Law_count_12 : decode method_12_code 12 = .ok (.astore_n 3, 1) := by decide +kernel
theorem d_Law_count_13 : decode method_12_code 13 = .ok (.iconst 1, 1) := by decide +kernel
theorem d_Law_count_14 : decode method_12_code 14 = .ok (.ireturn, 1) := by decide +kernel
theorem d_Law_count_15 : decode method_12_code 15 = .ok (.iconst 0, 1) := by decide +kernel
theorem d_Law_count_16 : decode method_12_code 16 = .ok (.ireturn, 1) := by decide +kernel
