theorem d_SF_byteOf_0 : decode prog_1_method_13_code 0 = .ok (.lload_n 0, 1) := by decide +kernel
theorem d_SF_byteOf_1 : decode prog_1_method_13_code 1 = .ok (.bipush 56, 2) := by decide +kernel
theorem d_SF_byteOf_3 : decode prog_1_method_13_code 3 = .ok (.bipush 8, 2) := by decide +kernel
theorem d_SF_byteOf_5 : decode prog_1_method_13_code 5 = .ok (.iload_n 2, 1) := by decide +kernel
theorem d_SF_byteOf_6 : decode prog_1_method_13_code 6 = .ok (.imul, 1) := by decide +kernel
theorem d_SF_byteOf_7 : decode prog_1_method_13_code 7 = .ok (.isub, 1) := by decide +kernel
theorem d_SF_byteOf_8 : decode prog_1_method_13_code 8 = .ok (.lushr, 1) := by decide +kernel
theorem d_SF_byteOf_9 : decode prog_1_method_13_code 9 = .ok (.l2i, 1) := by decide +kernel
theorem d_SF_byteOf_10 : decode prog_1_method_13_code 10 = .ok (.sipush 255, 3) := by decide +kernel
theorem d_SF_byteOf_13 : decode prog_1_method_13_code 13 = .ok (.iand, 1) := by decide +kernel
theorem d_SF_byteOf_14 : decode prog_1_method_13_code 14 = .ok (.ireturn, 1) := by decide +kernel
theorem d_SF_isText_0 : decode prog_1_method_14_code 0 = .ok (.iconst 0, 1) := by decide +kernel
theorem d_SF_isText_1 : decode prog_1_method_14_code 1 = .ok (.istore_n 3, 1) := by decide +kernel
theorem d_SF_isText_2 : decode prog_1_method_14_code 2 = .ok (.iload_n 3, 1) := by decide +kernel
theorem d_SF_isText_3 : decode prog_1_method_14_code 3 = .ok (.bipush 8, 2) := by decide +kernel
theorem d_SF_isText_5 : decode prog_1_method_14_code 5 = .ok (.if_icmp .ge 60, 3) := by decide +kernel
theorem d_SF_isText_8 : decode prog_1_method_14_code 8 = .ok (.lload_n 0, 1) := by decide +kernel
theorem d_SF_isText_9 : decode prog_1_method_14_code 9 = .ok (.iload_n 3, 1) := by decide +kernel
theorem d_SF_isText_10 : decode prog_1_method_14_code 10 = .ok (.invokestatic 158, 3) := by decide +kernel
theorem d_SF_isText_13 : decode prog_1_method_14_code 13 = .ok (.istore 4, 2) := by decide +kernel
theorem d_SF_isText_15 : decode prog_1_method_14_code 15 = .ok (.iload 4, 2) := by decide +kernel
theorem d_SF_isText_17 : decode prog_1_method_14_code 17 = .ok (.bipush 32, 2) := by decide +kernel
theorem d_SF_isText_19 : decode prog_1_method_14_code 19 = .ok (.if_icmp .lt 14, 3) := by decide +kernel
theorem d_SF_isText_22 : decode prog_1_method_14_code 22 = .ok (.iload 4, 2) := by decide +kernel
theorem d_SF_isText_24 : decode prog_1_method_14_code 24 = .ok (.bipush 126, 2) := by decide +kernel
theorem d_SF_isText_26 : decode prog_1_method_14_code 26 = .ok (.if_icmp .gt 7, 3) := by decide +kernel
theorem d_SF_isText_29 : decode prog_1_method_14_code 29 = .ok (.iconst 1, 1) := by decide +kernel
theorem d_SF_isText_30 : decode prog_1_method_14_code 30 = .ok (.goto 4, 3) := by decide +kernel
theorem d_SF_isText_33 : decode prog_1_method_14_code 33 = .ok (.iconst 0, 1) := by decide +kernel
theorem d_SF_isText_34 : decode prog_1_method_14_code 34 = .ok (.istore 5, 2) := by decide +kernel
theorem d_SF_isText_36 : decode prog_1_method_14_code 36 = .ok (.iload 4, 2) := by decide +kernel
theorem d_SF_isText_38 : decode prog_1_method_14_code 38 = .ok (.ifCond .eq 21, 3) := by decide +kernel
theorem d_SF_isText_41 : decode prog_1_method_14_code 41 = .ok (.iload 5, 2) := by decide +kernel
theorem d_SF_isText_43 : decode prog_1_method_14_code 43 = .ok (.ifCond .ne 16, 3) := by decide +kernel
theorem d_SF_isText_46 : decode prog_1_method_14_code 46 = .ok (.iload_n 2, 1) := by decide +kernel
theorem d_SF_isText_47 : decode prog_1_method_14_code 47 = .ok (.ifCond .eq 10, 3) := by decide +kernel
theorem d_SF_isText_50 : decode prog_1_method_14_code 50 = .ok (.iload 4, 2) := by decide +kernel
theorem d_SF_isText_52 : decode prog_1_method_14_code 52 = .ok (.bipush 10, 2) := by decide +kernel
theorem d_SF_isText_54 : decode prog_1_method_14_code 54 = .ok (.if_icmp .eq 5, 3) := by decide +kernel
theorem d_SF_isText_57 : decode prog_1_method_14_code 57 = .ok (.iconst 0, 1) := by decide +kernel
theorem d_SF_isText_58 : decode prog_1_method_14_code 58 = .ok (.ireturn, 1) := by decide +kernel
theorem d_SF_isText_59 : decode prog_1_method_14_code 59 = .ok (.iinc 3 1, 3) := by decide +kernel
theorem d_SF_isText_62 : decode prog_1_method_14_code 62 = .ok (.goto (-60), 3) := by decide +kernel
theorem d_SF_isText_65 : decode prog_1_method_14_code 65 = .ok (.iconst 1, 1) := by decide +kernel
theorem d_SF_isText_66 : decode prog_1_method_14_code 66 = .ok (.ireturn, 1) := by decide +kernel
theorem d_SF_textLength_0 : decode prog_1_method_15_code 0 = .ok (.iconst 0, 1) := by decide +kernel
theorem d_SF_textLength_1 : decode prog_1_method_15_code 1 = .ok (.istore_n 2, 1) := by decide +kernel
theorem d_SF_textLength_2 : decode prog_1_method_15_code 2 = .ok (.iconst 0, 1) := by decide +kernel
theorem d_SF_textLength_3 : decode prog_1_method_15_code 3 = .ok (.istore_n 3, 1) := by decide +kernel
theorem d_SF_textLength_4 : decode prog_1_method_15_code 4 = .ok (.iload_n 3, 1) := by decide +kernel
theorem d_SF_textLength_5 : decode prog_1_method_15_code 5 = .ok (.bipush 8, 2) := by decide +kernel
theorem d_SF_textLength_7 : decode prog_1_method_15_code 7 = .ok (.if_icmp .ge 20, 3) := by decide +kernel
theorem d_SF_textLength_10 : decode prog_1_method_15_code 10 = .ok (.lload_n 0, 1) := by decide +kernel
theorem d_SF_textLength_11 : decode prog_1_method_15_code 11 = .ok (.iload_n 3, 1) := by decide +kernel
theorem d_SF_textLength_12 : decode prog_1_method_15_code 12 = .ok (.invokestatic 158, 3) := by decide +kernel
theorem d_SF_textLength_15 : decode prog_1_method_15_code 15 = .ok (.ifCond .eq 6, 3) := by decide +kernel
theorem d_SF_textLength_18 : decode prog_1_method_15_code 18 = .ok (.iinc 2 1, 3) := by decide +kernel
theorem d_SF_textLength_21 : decode prog_1_method_15_code 21 = .ok (.iinc 3 1, 3) := by decide +kernel
theorem d_SF_textLength_24 : decode prog_1_method_15_code 24 = .ok (.goto (-20), 3) := by decide +kernel
theorem d_SF_textLength_27 : decode prog_1_method_15_code 27 = .ok (.iload_n 2, 1) := by decide +kernel
theorem d_SF_textLength_28 : decode prog_1_method_15_code 28 = .ok (.ireturn, 1) := by decide +kernel
theorem d_SF_addText_0 : decode prog_1_method_16_code 0 = .ok (.iconst 0, 1) := by decide +kernel
theorem d_SF_addText_1 : decode prog_1_method_16_code 1 = .ok (.istore_n 3, 1) := by decide +kernel
theorem d_SF_addText_2 : decode prog_1_method_16_code 2 = .ok (.iload_n 3, 1) := by decide +kernel
theorem d_SF_addText_3 : decode prog_1_method_16_code 3 = .ok (.bipush 8, 2) := by decide +kernel
theorem d_SF_addText_5 : decode prog_1_method_16_code 5 = .ok (.if_icmp .ge 27, 3) := by decide +kernel
theorem d_SF_addText_8 : decode prog_1_method_16_code 8 = .ok (.lload_n 1, 1) := by decide +kernel
theorem d_SF_addText_9 : decode prog_1_method_16_code 9 = .ok (.iload_n 3, 1) := by decide +kernel
theorem d_SF_addText_10 : decode prog_1_method_16_code 10 = .ok (.invokestatic 158, 3) := by decide +kernel
theorem d_SF_addText_13 : decode prog_1_method_16_code 13 = .ok (.istore 4, 2) := by decide +kernel
theorem d_SF_addText_15 : decode prog_1_method_16_code 15 = .ok (.iload 4, 2) := by decide +kernel
theorem d_SF_addText_17 : decode prog_1_method_16_code 17 = .ok (.ifCond .eq 9, 3) := by decide +kernel
theorem d_SF_addText_20 : decode prog_1_method_16_code 20 = .ok (.aload_n 0, 1) := by decide +kernel
theorem d_SF_addText_21 : decode prog_1_method_16_code 21 = .ok (.iload 4, 2) := by decide +kernel
theorem d_SF_addText_23 : decode prog_1_method_16_code 23 = .ok (.invokevirtual 162, 3) := by decide +kernel
theorem d_SF_addText_26 : decode prog_1_method_16_code 26 = .ok (.iinc 3 1, 3) := by decide +kernel
theorem d_SF_addText_29 : decode prog_1_method_16_code 29 = .ok (.goto (-27), 3) := by decide +kernel
theorem d_SF_addText_32 : decode prog_1_method_16_code 32 = .ok (.return_, 1) := by decide +kernel
theorem d_SF_where_0 : decode prog_1_method_5_code 0 = .ok (.aload_n 0, 1) := by decide +kernel
theorem d_SF_where_1 : decode prog_1_method_5_code 1 = .ok (.getfield 53, 3) := by decide +kernel
theorem d_SF_where_4 : decode prog_1_method_5_code 4 = .ok (.ireturn, 1) := by decide +kernel
