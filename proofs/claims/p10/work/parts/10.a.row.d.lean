theorem d_Row_hasRoom_0 : decode prog_12_method_2_code 0 = .ok (.iload_n 1, 1) := by decide +kernel
theorem d_Row_hasRoom_1 : decode prog_12_method_2_code 1 = .ok (.aload_n 0, 1) := by decide +kernel
theorem d_Row_hasRoom_2 : decode prog_12_method_2_code 2 = .ok (.getfield 9, 3) := by decide +kernel
theorem d_Row_hasRoom_5 : decode prog_12_method_2_code 5 = .ok (.arraylength, 1) := by decide +kernel
theorem d_Row_hasRoom_6 : decode prog_12_method_2_code 6 = .ok (.aload_n 0, 1) := by decide +kernel
theorem d_Row_hasRoom_7 : decode prog_12_method_2_code 7 = .ok (.getfield 15, 3) := by decide +kernel
theorem d_Row_hasRoom_10 : decode prog_12_method_2_code 10 = .ok (.isub, 1) := by decide +kernel
theorem d_Row_hasRoom_11 : decode prog_12_method_2_code 11 = .ok (.if_icmp .gt 7, 3) := by decide +kernel
theorem d_Row_hasRoom_14 : decode prog_12_method_2_code 14 = .ok (.iconst 1, 1) := by decide +kernel
theorem d_Row_hasRoom_15 : decode prog_12_method_2_code 15 = .ok (.goto 4, 3) := by decide +kernel
theorem d_Row_hasRoom_18 : decode prog_12_method_2_code 18 = .ok (.iconst 0, 1) := by decide +kernel
theorem d_Row_hasRoom_19 : decode prog_12_method_2_code 19 = .ok (.ireturn, 1) := by decide +kernel
theorem d_Row_at_0 : decode prog_12_method_3_code 0 = .ok (.iload_n 1, 1) := by decide +kernel
theorem d_Row_at_1 : decode prog_12_method_3_code 1 = .ok (.ifCond .lt 20, 3) := by decide +kernel
theorem d_Row_at_4 : decode prog_12_method_3_code 4 = .ok (.iload_n 1, 1) := by decide +kernel
theorem d_Row_at_5 : decode prog_12_method_3_code 5 = .ok (.aload_n 0, 1) := by decide +kernel
theorem d_Row_at_6 : decode prog_12_method_3_code 6 = .ok (.getfield 15, 3) := by decide +kernel
theorem d_Row_at_9 : decode prog_12_method_3_code 9 = .ok (.if_icmp .ge 12, 3) := by decide +kernel
theorem d_Row_at_12 : decode prog_12_method_3_code 12 = .ok (.aload_n 0, 1) := by decide +kernel
theorem d_Row_at_13 : decode prog_12_method_3_code 13 = .ok (.getfield 9, 3) := by decide +kernel
theorem d_Row_at_16 : decode prog_12_method_3_code 16 = .ok (.iload_n 1, 1) := by decide +kernel
theorem d_Row_at_17 : decode prog_12_method_3_code 17 = .ok (.caload, 1) := by decide +kernel
theorem d_Row_at_18 : decode prog_12_method_3_code 18 = .ok (.goto 4, 3) := by decide +kernel
theorem d_Row_at_21 : decode prog_12_method_3_code 21 = .ok (.iconst (-1), 1) := by decide +kernel
theorem d_Row_at_22 : decode prog_12_method_3_code 22 = .ok (.ireturn, 1) := by decide +kernel
theorem d_Row_empty_0 : decode prog_12_method_4_code 0 = .ok (.aload_n 0, 1) := by decide +kernel
theorem d_Row_empty_1 : decode prog_12_method_4_code 1 = .ok (.iconst 0, 1) := by decide +kernel
theorem d_Row_empty_2 : decode prog_12_method_4_code 2 = .ok (.putfield 15, 3) := by decide +kernel
theorem d_Row_empty_5 : decode prog_12_method_4_code 5 = .ok (.return_, 1) := by decide +kernel
theorem d_Row_add_0 : decode prog_12_method_5_code 0 = .ok (.aload_n 0, 1) := by decide +kernel
theorem d_Row_add_1 : decode prog_12_method_5_code 1 = .ok (.getfield 15, 3) := by decide +kernel
theorem d_Row_add_4 : decode prog_12_method_5_code 4 = .ok (.aload_n 0, 1) := by decide +kernel
theorem d_Row_add_5 : decode prog_12_method_5_code 5 = .ok (.getfield 9, 3) := by decide +kernel
theorem d_Row_add_8 : decode prog_12_method_5_code 8 = .ok (.arraylength, 1) := by decide +kernel
theorem d_Row_add_9 : decode prog_12_method_5_code 9 = .ok (.if_icmp .ge 24, 3) := by decide +kernel
theorem d_Row_add_12 : decode prog_12_method_5_code 12 = .ok (.aload_n 0, 1) := by decide +kernel
theorem d_Row_add_13 : decode prog_12_method_5_code 13 = .ok (.getfield 9, 3) := by decide +kernel
theorem d_Row_add_16 : decode prog_12_method_5_code 16 = .ok (.aload_n 0, 1) := by decide +kernel
theorem d_Row_add_17 : decode prog_12_method_5_code 17 = .ok (.getfield 15, 3) := by decide +kernel
theorem d_Row_add_20 : decode prog_12_method_5_code 20 = .ok (.iload_n 1, 1) := by decide +kernel
theorem d_Row_add_21 : decode prog_12_method_5_code 21 = .ok (.i2c, 1) := by decide +kernel
theorem d_Row_add_22 : decode prog_12_method_5_code 22 = .ok (.castore, 1) := by decide +kernel
theorem d_Row_add_23 : decode prog_12_method_5_code 23 = .ok (.aload_n 0, 1) := by decide +kernel
theorem d_Row_add_24 : decode prog_12_method_5_code 24 = .ok (.dup, 1) := by decide +kernel
theorem d_Row_add_25 : decode prog_12_method_5_code 25 = .ok (.getfield 15, 3) := by decide +kernel
theorem d_Row_add_28 : decode prog_12_method_5_code 28 = .ok (.iconst 1, 1) := by decide +kernel
theorem d_Row_add_29 : decode prog_12_method_5_code 29 = .ok (.iadd, 1) := by decide +kernel
theorem d_Row_add_30 : decode prog_12_method_5_code 30 = .ok (.putfield 15, 3) := by decide +kernel
theorem d_Row_add_33 : decode prog_12_method_5_code 33 = .ok (.return_, 1) := by decide +kernel
theorem d_Row_addPart_0 : decode prog_12_method_6_code 0 = .ok (.iload_n 2, 1) := by decide +kernel
theorem d_Row_addPart_1 : decode prog_12_method_6_code 1 = .ok (.istore 4, 2) := by decide +kernel
theorem d_Row_addPart_3 : decode prog_12_method_6_code 3 = .ok (.iload 4, 2) := by decide +kernel
theorem d_Row_addPart_5 : decode prog_12_method_6_code 5 = .ok (.iload_n 3, 1) := by decide +kernel
theorem d_Row_addPart_6 : decode prog_12_method_6_code 6 = .ok (.if_icmp .ge 56, 3) := by decide +kernel
theorem d_Row_addPart_9 : decode prog_12_method_6_code 9 = .ok (.iload 4, 2) := by decide +kernel
theorem d_Row_addPart_11 : decode prog_12_method_6_code 11 = .ok (.aload_n 1, 1) := by decide +kernel
theorem d_Row_addPart_12 : decode prog_12_method_6_code 12 = .ok (.getfield 15, 3) := by decide +kernel
theorem d_Row_addPart_15 : decode prog_12_method_6_code 15 = .ok (.if_icmp .ge 47, 3) := by decide +kernel
theorem d_Row_addPart_18 : decode prog_12_method_6_code 18 = .ok (.aload_n 0, 1) := by decide +kernel
theorem d_Row_addPart_19 : decode prog_12_method_6_code 19 = .ok (.getfield 15, 3) := by decide +kernel
theorem d_Row_addPart_22 : decode prog_12_method_6_code 22 = .ok (.aload_n 0, 1) := by decide +kernel
theorem d_Row_addPart_23 : decode prog_12_method_6_code 23 = .ok (.getfield 9, 3) := by decide +kernel
theorem d_Row_addPart_26 : decode prog_12_method_6_code 26 = .ok (.arraylength, 1) := by decide +kernel
theorem d_Row_addPart_27 : decode prog_12_method_6_code 27 = .ok (.if_icmp .ge 35, 3) := by decide +kernel
theorem d_Row_addPart_30 : decode prog_12_method_6_code 30 = .ok (.aload_n 0, 1) := by decide +kernel
theorem d_Row_addPart_31 : decode prog_12_method_6_code 31 = .ok (.getfield 9, 3) := by decide +kernel
theorem d_Row_addPart_34 : decode prog_12_method_6_code 34 = .ok (.aload_n 0, 1) := by decide +kernel
theorem d_Row_addPart_35 : decode prog_12_method_6_code 35 = .ok (.getfield 15, 3) := by decide +kernel
theorem d_Row_addPart_38 : decode prog_12_method_6_code 38 = .ok (.aload_n 1, 1) := by decide +kernel
theorem d_Row_addPart_39 : decode prog_12_method_6_code 39 = .ok (.getfield 9, 3) := by decide +kernel
theorem d_Row_addPart_42 : decode prog_12_method_6_code 42 = .ok (.iload 4, 2) := by decide +kernel
theorem d_Row_addPart_44 : decode prog_12_method_6_code 44 = .ok (.caload, 1) := by decide +kernel
theorem d_Row_addPart_45 : decode prog_12_method_6_code 45 = .ok (.castore, 1) := by decide +kernel
theorem d_Row_addPart_46 : decode prog_12_method_6_code 46 = .ok (.aload_n 0, 1) := by decide +kernel
theorem d_Row_addPart_47 : decode prog_12_method_6_code 47 = .ok (.dup, 1) := by decide +kernel
theorem d_Row_addPart_48 : decode prog_12_method_6_code 48 = .ok (.getfield 15, 3) := by decide +kernel
theorem d_Row_addPart_51 : decode prog_12_method_6_code 51 = .ok (.iconst 1, 1) := by decide +kernel
theorem d_Row_addPart_52 : decode prog_12_method_6_code 52 = .ok (.iadd, 1) := by decide +kernel
theorem d_Row_addPart_53 : decode prog_12_method_6_code 53 = .ok (.putfield 15, 3) := by decide +kernel
theorem d_Row_addPart_56 : decode prog_12_method_6_code 56 = .ok (.iinc 4 1, 3) := by decide +kernel
theorem d_Row_addPart_59 : decode prog_12_method_6_code 59 = .ok (.goto (-56), 3) := by decide +kernel
theorem d_Row_addPart_62 : decode prog_12_method_6_code 62 = .ok (.return_, 1) := by decide +kernel
theorem d_Row_dropFirst_0 : decode prog_12_method_7_code 0 = .ok (.iload_n 1, 1) := by decide +kernel
theorem d_Row_dropFirst_1 : decode prog_12_method_7_code 1 = .ok (.istore_n 2, 1) := by decide +kernel
theorem d_Row_dropFirst_2 : decode prog_12_method_7_code 2 = .ok (.iload_n 2, 1) := by decide +kernel
theorem d_Row_dropFirst_3 : decode prog_12_method_7_code 3 = .ok (.aload_n 0, 1) := by decide +kernel
theorem d_Row_dropFirst_4 : decode prog_12_method_7_code 4 = .ok (.getfield 15, 3) := by decide +kernel
theorem d_Row_dropFirst_7 : decode prog_12_method_7_code 7 = .ok (.if_icmp .ge 23, 3) := by decide +kernel
theorem d_Row_dropFirst_10 : decode prog_12_method_7_code 10 = .ok (.aload_n 0, 1) := by decide +kernel
theorem d_Row_dropFirst_11 : decode prog_12_method_7_code 11 = .ok (.getfield 9, 3) := by decide +kernel
theorem d_Row_dropFirst_14 : decode prog_12_method_7_code 14 = .ok (.iload_n 2, 1) := by decide +kernel
theorem d_Row_dropFirst_15 : decode prog_12_method_7_code 15 = .ok (.iload_n 1, 1) := by decide +kernel
theorem d_Row_dropFirst_16 : decode prog_12_method_7_code 16 = .ok (.isub, 1) := by decide +kernel
theorem d_Row_dropFirst_17 : decode prog_12_method_7_code 17 = .ok (.aload_n 0, 1) := by decide +kernel
theorem d_Row_dropFirst_18 : decode prog_12_method_7_code 18 = .ok (.getfield 9, 3) := by decide +kernel
theorem d_Row_dropFirst_21 : decode prog_12_method_7_code 21 = .ok (.iload_n 2, 1) := by decide +kernel
theorem d_Row_dropFirst_22 : decode prog_12_method_7_code 22 = .ok (.caload, 1) := by decide +kernel
theorem d_Row_dropFirst_23 : decode prog_12_method_7_code 23 = .ok (.castore, 1) := by decide +kernel
theorem d_Row_dropFirst_24 : decode prog_12_method_7_code 24 = .ok (.iinc 2 1, 3) := by decide +kernel
theorem d_Row_dropFirst_27 : decode prog_12_method_7_code 27 = .ok (.goto (-25), 3) := by decide +kernel
theorem d_Row_dropFirst_30 : decode prog_12_method_7_code 30 = .ok (.aload_n 0, 1) := by decide +kernel
theorem d_Row_dropFirst_31 : decode prog_12_method_7_code 31 = .ok (.dup, 1) := by decide +kernel
theorem d_Row_dropFirst_32 : decode prog_12_method_7_code 32 = .ok (.getfield 15, 3) := by decide +kernel
theorem d_Row_dropFirst_35 : decode prog_12_method_7_code 35 = .ok (.iload_n 1, 1) := by decide +kernel
theorem d_Row_dropFirst_36 : decode prog_12_method_7_code 36 = .ok (.isub, 1) := by decide +kernel
theorem d_Row_dropFirst_37 : decode prog_12_method_7_code 37 = .ok (.putfield 15, 3) := by decide +kernel
theorem d_Row_dropFirst_40 : decode prog_12_method_7_code 40 = .ok (.return_, 1) := by decide +kernel
theorem d_Row_newlineFrom_0 : decode prog_12_method_8_code 0 = .ok (.iload_n 1, 1) := by decide +kernel
theorem d_Row_newlineFrom_1 : decode prog_12_method_8_code 1 = .ok (.istore_n 2, 1) := by decide +kernel
theorem d_Row_newlineFrom_2 : decode prog_12_method_8_code 2 = .ok (.iload_n 2, 1) := by decide +kernel
theorem d_Row_newlineFrom_3 : decode prog_12_method_8_code 3 = .ok (.aload_n 0, 1) := by decide +kernel
theorem d_Row_newlineFrom_4 : decode prog_12_method_8_code 4 = .ok (.getfield 15, 3) := by decide +kernel
theorem d_Row_newlineFrom_7 : decode prog_12_method_8_code 7 = .ok (.if_icmp .ge 20, 3) := by decide +kernel
theorem d_Row_newlineFrom_10 : decode prog_12_method_8_code 10 = .ok (.aload_n 0, 1) := by decide +kernel
theorem d_Row_newlineFrom_11 : decode prog_12_method_8_code 11 = .ok (.getfield 9, 3) := by decide +kernel
theorem d_Row_newlineFrom_14 : decode prog_12_method_8_code 14 = .ok (.iload_n 2, 1) := by decide +kernel
theorem d_Row_newlineFrom_15 : decode prog_12_method_8_code 15 = .ok (.caload, 1) := by decide +kernel
theorem d_Row_newlineFrom_16 : decode prog_12_method_8_code 16 = .ok (.bipush 10, 2) := by decide +kernel
theorem d_Row_newlineFrom_18 : decode prog_12_method_8_code 18 = .ok (.if_icmp .eq 9, 3) := by decide +kernel
theorem d_Row_newlineFrom_21 : decode prog_12_method_8_code 21 = .ok (.iinc 2 1, 3) := by decide +kernel
theorem d_Row_newlineFrom_24 : decode prog_12_method_8_code 24 = .ok (.goto (-22), 3) := by decide +kernel
theorem d_Row_newlineFrom_27 : decode prog_12_method_8_code 27 = .ok (.iload_n 2, 1) := by decide +kernel
theorem d_Row_newlineFrom_28 : decode prog_12_method_8_code 28 = .ok (.ireturn, 1) := by decide +kernel
