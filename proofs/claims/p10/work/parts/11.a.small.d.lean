theorem d_Cur_look_0 : decode prog_4_method_2_code 0 = .ok (.aload_n 0, 1) := by decide +kernel
theorem d_Cur_look_1 : decode prog_4_method_2_code 1 = .ok (.getfield 9, 3) := by decide +kernel
theorem d_Cur_look_4 : decode prog_4_method_2_code 4 = .ok (.iload_n 1, 1) := by decide +kernel
theorem d_Cur_look_5 : decode prog_4_method_2_code 5 = .ok (.iadd, 1) := by decide +kernel
theorem d_Cur_look_6 : decode prog_4_method_2_code 6 = .ok (.istore_n 2, 1) := by decide +kernel
theorem d_Cur_look_7 : decode prog_4_method_2_code 7 = .ok (.iload_n 2, 1) := by decide +kernel
theorem d_Cur_look_8 : decode prog_4_method_2_code 8 = .ok (.aload_n 0, 1) := by decide +kernel
theorem d_Cur_look_9 : decode prog_4_method_2_code 9 = .ok (.getfield 15, 3) := by decide +kernel
theorem d_Cur_look_12 : decode prog_4_method_2_code 12 = .ok (.getfield 19, 3) := by decide +kernel
theorem d_Cur_look_15 : decode prog_4_method_2_code 15 = .ok (.if_icmp .ge 15, 3) := by decide +kernel
theorem d_Cur_look_18 : decode prog_4_method_2_code 18 = .ok (.aload_n 0, 1) := by decide +kernel
theorem d_Cur_look_19 : decode prog_4_method_2_code 19 = .ok (.getfield 15, 3) := by decide +kernel
theorem d_Cur_look_22 : decode prog_4_method_2_code 22 = .ok (.getfield 24, 3) := by decide +kernel
theorem d_Cur_look_25 : decode prog_4_method_2_code 25 = .ok (.iload_n 2, 1) := by decide +kernel
theorem d_Cur_look_26 : decode prog_4_method_2_code 26 = .ok (.caload, 1) := by decide +kernel
theorem d_Cur_look_27 : decode prog_4_method_2_code 27 = .ok (.goto 4, 3) := by decide +kernel
theorem d_Cur_look_30 : decode prog_4_method_2_code 30 = .ok (.iconst (-1), 1) := by decide +kernel
theorem d_Cur_look_31 : decode prog_4_method_2_code 31 = .ok (.ireturn, 1) := by decide +kernel
theorem d_Cur_refuse_0 : decode prog_4_method_3_code 0 = .ok (.aload_n 0, 1) := by decide +kernel
theorem d_Cur_refuse_1 : decode prog_4_method_3_code 1 = .ok (.aload_n 0, 1) := by decide +kernel
theorem d_Cur_refuse_2 : decode prog_4_method_3_code 2 = .ok (.getfield 9, 3) := by decide +kernel
theorem d_Cur_refuse_5 : decode prog_4_method_3_code 5 = .ok (.iload_n 1, 1) := by decide +kernel
theorem d_Cur_refuse_6 : decode prog_4_method_3_code 6 = .ok (.iadd, 1) := by decide +kernel
theorem d_Cur_refuse_7 : decode prog_4_method_3_code 7 = .ok (.putfield 28, 3) := by decide +kernel
theorem d_Cur_refuse_10 : decode prog_4_method_3_code 10 = .ok (.iconst 0, 1) := by decide +kernel
theorem d_Cur_refuse_11 : decode prog_4_method_3_code 11 = .ok (.ireturn, 1) := by decide +kernel
theorem d_Cur_pass_0 : decode prog_4_method_4_code 0 = .ok (.aload_n 0, 1) := by decide +kernel
theorem d_Cur_pass_1 : decode prog_4_method_4_code 1 = .ok (.iconst 0, 1) := by decide +kernel
theorem d_Cur_pass_2 : decode prog_4_method_4_code 2 = .ok (.invokevirtual 31, 3) := by decide +kernel
theorem d_Cur_pass_5 : decode prog_4_method_4_code 5 = .ok (.iload_n 1, 1) := by decide +kernel
theorem d_Cur_pass_6 : decode prog_4_method_4_code 6 = .ok (.if_icmp .eq 9, 3) := by decide +kernel
theorem d_Cur_pass_9 : decode prog_4_method_4_code 9 = .ok (.aload_n 0, 1) := by decide +kernel
theorem d_Cur_pass_10 : decode prog_4_method_4_code 10 = .ok (.iconst 0, 1) := by decide +kernel
theorem d_Cur_pass_11 : decode prog_4_method_4_code 11 = .ok (.invokevirtual 35, 3) := by decide +kernel
theorem d_Cur_pass_14 : decode prog_4_method_4_code 14 = .ok (.ireturn, 1) := by decide +kernel
theorem d_Cur_pass_15 : decode prog_4_method_4_code 15 = .ok (.aload_n 0, 1) := by decide +kernel
theorem d_Cur_pass_16 : decode prog_4_method_4_code 16 = .ok (.dup, 1) := by decide +kernel
theorem d_Cur_pass_17 : decode prog_4_method_4_code 17 = .ok (.getfield 9, 3) := by decide +kernel
theorem d_Cur_pass_20 : decode prog_4_method_4_code 20 = .ok (.iconst 1, 1) := by decide +kernel
theorem d_Cur_pass_21 : decode prog_4_method_4_code 21 = .ok (.iadd, 1) := by decide +kernel
theorem d_Cur_pass_22 : decode prog_4_method_4_code 22 = .ok (.putfield 9, 3) := by decide +kernel
theorem d_Cur_pass_25 : decode prog_4_method_4_code 25 = .ok (.iconst 1, 1) := by decide +kernel
theorem d_Cur_pass_26 : decode prog_4_method_4_code 26 = .ok (.ireturn, 1) := by decide +kernel
theorem d_It_add_0 : decode prog_6_method_2_code 0 = .ok (.aload_n 0, 1) := by decide +kernel
theorem d_It_add_1 : decode prog_6_method_2_code 1 = .ok (.getfield 25, 3) := by decide +kernel
theorem d_It_add_4 : decode prog_6_method_2_code 4 = .ok (.sipush 240, 3) := by decide +kernel
theorem d_It_add_7 : decode prog_6_method_2_code 7 = .ok (.if_icmp .ge 53, 3) := by decide +kernel
theorem d_It_add_10 : decode prog_6_method_2_code 10 = .ok (.aload_n 0, 1) := by decide +kernel
theorem d_It_add_11 : decode prog_6_method_2_code 11 = .ok (.getfield 9, 3) := by decide +kernel
theorem d_It_add_14 : decode prog_6_method_2_code 14 = .ok (.aload_n 0, 1) := by decide +kernel
theorem d_It_add_15 : decode prog_6_method_2_code 15 = .ok (.getfield 25, 3) := by decide +kernel
theorem d_It_add_18 : decode prog_6_method_2_code 18 = .ok (.iload_n 1, 1) := by decide +kernel
theorem d_It_add_19 : decode prog_6_method_2_code 19 = .ok (.iastore, 1) := by decide +kernel
theorem d_It_add_20 : decode prog_6_method_2_code 20 = .ok (.aload_n 0, 1) := by decide +kernel
theorem d_It_add_21 : decode prog_6_method_2_code 21 = .ok (.getfield 15, 3) := by decide +kernel
theorem d_It_add_24 : decode prog_6_method_2_code 24 = .ok (.aload_n 0, 1) := by decide +kernel
theorem d_It_add_25 : decode prog_6_method_2_code 25 = .ok (.getfield 25, 3) := by decide +kernel
theorem d_It_add_28 : decode prog_6_method_2_code 28 = .ok (.iload_n 2, 1) := by decide +kernel
theorem d_It_add_29 : decode prog_6_method_2_code 29 = .ok (.iastore, 1) := by decide +kernel
theorem d_It_add_30 : decode prog_6_method_2_code 30 = .ok (.aload_n 0, 1) := by decide +kernel
theorem d_It_add_31 : decode prog_6_method_2_code 31 = .ok (.getfield 18, 3) := by decide +kernel
theorem d_It_add_34 : decode prog_6_method_2_code 34 = .ok (.aload_n 0, 1) := by decide +kernel
theorem d_It_add_35 : decode prog_6_method_2_code 35 = .ok (.getfield 25, 3) := by decide +kernel
theorem d_It_add_38 : decode prog_6_method_2_code 38 = .ok (.lconst 0, 1) := by decide +kernel
theorem d_It_add_39 : decode prog_6_method_2_code 39 = .ok (.lastore, 1) := by decide +kernel
theorem d_It_add_40 : decode prog_6_method_2_code 40 = .ok (.aload_n 0, 1) := by decide +kernel
theorem d_It_add_41 : decode prog_6_method_2_code 41 = .ok (.getfield 22, 3) := by decide +kernel
theorem d_It_add_44 : decode prog_6_method_2_code 44 = .ok (.aload_n 0, 1) := by decide +kernel
theorem d_It_add_45 : decode prog_6_method_2_code 45 = .ok (.getfield 25, 3) := by decide +kernel
theorem d_It_add_48 : decode prog_6_method_2_code 48 = .ok (.lconst 0, 1) := by decide +kernel
theorem d_It_add_49 : decode prog_6_method_2_code 49 = .ok (.lastore, 1) := by decide +kernel
theorem d_It_add_50 : decode prog_6_method_2_code 50 = .ok (.aload_n 0, 1) := by decide +kernel
theorem d_It_add_51 : decode prog_6_method_2_code 51 = .ok (.dup, 1) := by decide +kernel
theorem d_It_add_52 : decode prog_6_method_2_code 52 = .ok (.getfield 25, 3) := by decide +kernel
theorem d_It_add_55 : decode prog_6_method_2_code 55 = .ok (.iconst 1, 1) := by decide +kernel
theorem d_It_add_56 : decode prog_6_method_2_code 56 = .ok (.iadd, 1) := by decide +kernel
theorem d_It_add_57 : decode prog_6_method_2_code 57 = .ok (.putfield 25, 3) := by decide +kernel
theorem d_It_add_60 : decode prog_6_method_2_code 60 = .ok (.return_, 1) := by decide +kernel
theorem d_It_allow_0 : decode prog_6_method_3_code 0 = .ok (.aload_n 0, 1) := by decide +kernel
theorem d_It_allow_1 : decode prog_6_method_3_code 1 = .ok (.getfield 25, 3) := by decide +kernel
theorem d_It_allow_4 : decode prog_6_method_3_code 4 = .ok (.iconst 1, 1) := by decide +kernel
theorem d_It_allow_5 : decode prog_6_method_3_code 5 = .ok (.isub, 1) := by decide +kernel
theorem d_It_allow_6 : decode prog_6_method_3_code 6 = .ok (.istore_n 3, 1) := by decide +kernel
theorem d_It_allow_7 : decode prog_6_method_3_code 7 = .ok (.iload_n 1, 1) := by decide +kernel
theorem d_It_allow_8 : decode prog_6_method_3_code 8 = .ok (.istore 4, 2) := by decide +kernel
theorem d_It_allow_10 : decode prog_6_method_3_code 10 = .ok (.iload 4, 2) := by decide +kernel
theorem d_It_allow_12 : decode prog_6_method_3_code 12 = .ok (.iload_n 2, 1) := by decide +kernel
theorem d_It_allow_13 : decode prog_6_method_3_code 13 = .ok (.if_icmp .gt 59, 3) := by decide +kernel
theorem d_It_allow_16 : decode prog_6_method_3_code 16 = .ok (.iload_n 3, 1) := by decide +kernel
theorem d_It_allow_17 : decode prog_6_method_3_code 17 = .ok (.ifCond .lt 55, 3) := by decide +kernel
theorem d_It_allow_20 : decode prog_6_method_3_code 20 = .ok (.iload 4, 2) := by decide +kernel
theorem d_It_allow_22 : decode prog_6_method_3_code 22 = .ok (.bipush 32, 2) := by decide +kernel
theorem d_It_allow_24 : decode prog_6_method_3_code 24 = .ok (.isub, 1) := by decide +kernel
theorem d_It_allow_25 : decode prog_6_method_3_code 25 = .ok (.istore 5, 2) := by decide +kernel
theorem d_It_allow_27 : decode prog_6_method_3_code 27 = .ok (.iload 5, 2) := by decide +kernel
theorem d_It_allow_29 : decode prog_6_method_3_code 29 = .ok (.bipush 64, 2) := by decide +kernel
theorem d_It_allow_31 : decode prog_6_method_3_code 31 = .ok (.if_icmp .ge 19, 3) := by decide +kernel
theorem d_It_allow_34 : decode prog_6_method_3_code 34 = .ok (.aload_n 0, 1) := by decide +kernel
theorem d_It_allow_35 : decode prog_6_method_3_code 35 = .ok (.getfield 18, 3) := by decide +kernel
theorem d_It_allow_38 : decode prog_6_method_3_code 38 = .ok (.iload_n 3, 1) := by decide +kernel
theorem d_It_allow_39 : decode prog_6_method_3_code 39 = .ok (.dup2, 1) := by decide +kernel
theorem d_It_allow_40 : decode prog_6_method_3_code 40 = .ok (.laload, 1) := by decide +kernel
theorem d_It_allow_41 : decode prog_6_method_3_code 41 = .ok (.lconst 1, 1) := by decide +kernel
theorem d_It_allow_42 : decode prog_6_method_3_code 42 = .ok (.iload 5, 2) := by decide +kernel
theorem d_It_allow_44 : decode prog_6_method_3_code 44 = .ok (.lshl, 1) := by decide +kernel
theorem d_It_allow_45 : decode prog_6_method_3_code 45 = .ok (.lor, 1) := by decide +kernel
theorem d_It_allow_46 : decode prog_6_method_3_code 46 = .ok (.lastore, 1) := by decide +kernel
theorem d_It_allow_47 : decode prog_6_method_3_code 47 = .ok (.goto 19, 3) := by decide +kernel
theorem d_It_allow_50 : decode prog_6_method_3_code 50 = .ok (.aload_n 0, 1) := by decide +kernel
theorem d_It_allow_51 : decode prog_6_method_3_code 51 = .ok (.getfield 22, 3) := by decide +kernel
theorem d_It_allow_54 : decode prog_6_method_3_code 54 = .ok (.iload_n 3, 1) := by decide +kernel
theorem d_It_allow_55 : decode prog_6_method_3_code 55 = .ok (.dup2, 1) := by decide +kernel
theorem d_It_allow_56 : decode prog_6_method_3_code 56 = .ok (.laload, 1) := by decide +kernel
theorem d_It_allow_57 : decode prog_6_method_3_code 57 = .ok (.lconst 1, 1) := by decide +kernel
theorem d_It_allow_58 : decode prog_6_method_3_code 58 = .ok (.iload 5, 2) := by decide +kernel
theorem d_It_allow_60 : decode prog_6_method_3_code 60 = .ok (.bipush 64, 2) := by decide +kernel
theorem d_It_allow_62 : decode prog_6_method_3_code 62 = .ok (.isub, 1) := by decide +kernel
theorem d_It_allow_63 : decode prog_6_method_3_code 63 = .ok (.lshl, 1) := by decide +kernel
theorem d_It_allow_64 : decode prog_6_method_3_code 64 = .ok (.lor, 1) := by decide +kernel
theorem d_It_allow_65 : decode prog_6_method_3_code 65 = .ok (.lastore, 1) := by decide +kernel
theorem d_It_allow_66 : decode prog_6_method_3_code 66 = .ok (.iinc 4 1, 3) := by decide +kernel
theorem d_It_allow_69 : decode prog_6_method_3_code 69 = .ok (.goto (-59), 3) := by decide +kernel
theorem d_It_allow_72 : decode prog_6_method_3_code 72 = .ok (.return_, 1) := by decide +kernel
theorem d_It_turn_0 : decode prog_6_method_4_code 0 = .ok (.aload_n 0, 1) := by decide +kernel
theorem d_It_turn_1 : decode prog_6_method_4_code 1 = .ok (.getfield 25, 3) := by decide +kernel
theorem d_It_turn_4 : decode prog_6_method_4_code 4 = .ok (.iconst 1, 1) := by decide +kernel
theorem d_It_turn_5 : decode prog_6_method_4_code 5 = .ok (.isub, 1) := by decide +kernel
theorem d_It_turn_6 : decode prog_6_method_4_code 6 = .ok (.istore_n 1, 1) := by decide +kernel
theorem d_It_turn_7 : decode prog_6_method_4_code 7 = .ok (.iload_n 1, 1) := by decide +kernel
theorem d_It_turn_8 : decode prog_6_method_4_code 8 = .ok (.ifCond .lt 35, 3) := by decide +kernel
theorem d_It_turn_11 : decode prog_6_method_4_code 11 = .ok (.aload_n 0, 1) := by decide +kernel
theorem d_It_turn_12 : decode prog_6_method_4_code 12 = .ok (.getfield 18, 3) := by decide +kernel
theorem d_It_turn_15 : decode prog_6_method_4_code 15 = .ok (.iload_n 1, 1) := by decide +kernel
theorem d_It_turn_16 : decode prog_6_method_4_code 16 = .ok (.aload_n 0, 1) := by decide +kernel
theorem d_It_turn_17 : decode prog_6_method_4_code 17 = .ok (.getfield 18, 3) := by decide +kernel
theorem d_It_turn_20 : decode prog_6_method_4_code 20 = .ok (.iload_n 1, 1) := by decide +kernel
theorem d_It_turn_21 : decode prog_6_method_4_code 21 = .ok (.laload, 1) := by decide +kernel
theorem d_It_turn_22 : decode prog_6_method_4_code 22 = .ok (.ldc2_w 29, 3) := by decide +kernel
theorem d_It_turn_25 : decode prog_6_method_4_code 25 = .ok (.lxor, 1) := by decide +kernel
theorem d_It_turn_26 : decode prog_6_method_4_code 26 = .ok (.lastore, 1) := by decide +kernel
theorem d_It_turn_27 : decode prog_6_method_4_code 27 = .ok (.aload_n 0, 1) := by decide +kernel
theorem d_It_turn_28 : decode prog_6_method_4_code 28 = .ok (.getfield 22, 3) := by decide +kernel
theorem d_It_turn_31 : decode prog_6_method_4_code 31 = .ok (.iload_n 1, 1) := by decide +kernel
theorem d_It_turn_32 : decode prog_6_method_4_code 32 = .ok (.aload_n 0, 1) := by decide +kernel
theorem d_It_turn_33 : decode prog_6_method_4_code 33 = .ok (.getfield 22, 3) := by decide +kernel
theorem d_It_turn_36 : decode prog_6_method_4_code 36 = .ok (.iload_n 1, 1) := by decide +kernel
theorem d_It_turn_37 : decode prog_6_method_4_code 37 = .ok (.laload, 1) := by decide +kernel
theorem d_It_turn_38 : decode prog_6_method_4_code 38 = .ok (.ldc2_w 29, 3) := by decide +kernel
theorem d_It_turn_41 : decode prog_6_method_4_code 41 = .ok (.lxor, 1) := by decide +kernel
theorem d_It_turn_42 : decode prog_6_method_4_code 42 = .ok (.lastore, 1) := by decide +kernel
theorem d_It_turn_43 : decode prog_6_method_4_code 43 = .ok (.return_, 1) := by decide +kernel
theorem d_It_takes_0 : decode prog_6_method_5_code 0 = .ok (.iload_n 2, 1) := by decide +kernel
theorem d_It_takes_1 : decode prog_6_method_5_code 1 = .ok (.bipush 10, 2) := by decide +kernel
theorem d_It_takes_3 : decode prog_6_method_5_code 3 = .ok (.if_icmp .ne 8, 3) := by decide +kernel
theorem d_It_takes_6 : decode prog_6_method_5_code 6 = .ok (.bipush 95, 2) := by decide +kernel
theorem d_It_takes_8 : decode prog_6_method_5_code 8 = .ok (.goto 7, 3) := by decide +kernel
theorem d_It_takes_11 : decode prog_6_method_5_code 11 = .ok (.iload_n 2, 1) := by decide +kernel
theorem d_It_takes_12 : decode prog_6_method_5_code 12 = .ok (.bipush 32, 2) := by decide +kernel
theorem d_It_takes_14 : decode prog_6_method_5_code 14 = .ok (.isub, 1) := by decide +kernel
theorem d_It_takes_15 : decode prog_6_method_5_code 15 = .ok (.istore_n 3, 1) := by decide +kernel
theorem d_It_takes_16 : decode prog_6_method_5_code 16 = .ok (.iload_n 3, 1) := by decide +kernel
theorem d_It_takes_17 : decode prog_6_method_5_code 17 = .ok (.bipush 64, 2) := by decide +kernel
theorem d_It_takes_19 : decode prog_6_method_5_code 19 = .ok (.if_icmp .ge 14, 3) := by decide +kernel
theorem d_It_takes_22 : decode prog_6_method_5_code 22 = .ok (.aload_n 0, 1) := by decide +kernel
theorem d_It_takes_23 : decode prog_6_method_5_code 23 = .ok (.getfield 18, 3) := by decide +kernel
theorem d_It_takes_26 : decode prog_6_method_5_code 26 = .ok (.iload_n 1, 1) := by decide +kernel
theorem d_It_takes_27 : decode prog_6_method_5_code 27 = .ok (.laload, 1) := by decide +kernel
theorem d_It_takes_28 : decode prog_6_method_5_code 28 = .ok (.iload_n 3, 1) := by decide +kernel
theorem d_It_takes_29 : decode prog_6_method_5_code 29 = .ok (.lushr, 1) := by decide +kernel
theorem d_It_takes_30 : decode prog_6_method_5_code 30 = .ok (.goto 14, 3) := by decide +kernel
theorem d_It_takes_33 : decode prog_6_method_5_code 33 = .ok (.aload_n 0, 1) := by decide +kernel
theorem d_It_takes_34 : decode prog_6_method_5_code 34 = .ok (.getfield 22, 3) := by decide +kernel
theorem d_It_takes_37 : decode prog_6_method_5_code 37 = .ok (.iload_n 1, 1) := by decide +kernel
theorem d_It_takes_38 : decode prog_6_method_5_code 38 = .ok (.laload, 1) := by decide +kernel
theorem d_It_takes_39 : decode prog_6_method_5_code 39 = .ok (.iload_n 3, 1) := by decide +kernel
theorem d_It_takes_40 : decode prog_6_method_5_code 40 = .ok (.bipush 64, 2) := by decide +kernel
theorem d_It_takes_42 : decode prog_6_method_5_code 42 = .ok (.isub, 1) := by decide +kernel
theorem d_It_takes_43 : decode prog_6_method_5_code 43 = .ok (.lushr, 1) := by decide +kernel
theorem d_It_takes_44 : decode prog_6_method_5_code 44 = .ok (.lstore 4, 2) := by decide +kernel
theorem d_It_takes_46 : decode prog_6_method_5_code 46 = .ok (.lload 4, 2) := by decide +kernel
theorem d_It_takes_48 : decode prog_6_method_5_code 48 = .ok (.lconst 1, 1) := by decide +kernel
theorem d_It_takes_49 : decode prog_6_method_5_code 49 = .ok (.land, 1) := by decide +kernel
theorem d_It_takes_50 : decode prog_6_method_5_code 50 = .ok (.lconst 0, 1) := by decide +kernel
theorem d_It_takes_51 : decode prog_6_method_5_code 51 = .ok (.lcmp, 1) := by decide +kernel
theorem d_It_takes_52 : decode prog_6_method_5_code 52 = .ok (.ifCond .eq 7, 3) := by decide +kernel
theorem d_It_takes_55 : decode prog_6_method_5_code 55 = .ok (.iconst 1, 1) := by decide +kernel
theorem d_It_takes_56 : decode prog_6_method_5_code 56 = .ok (.goto 4, 3) := by decide +kernel
theorem d_It_takes_59 : decode prog_6_method_5_code 59 = .ok (.iconst 0, 1) := by decide +kernel
theorem d_It_takes_60 : decode prog_6_method_5_code 60 = .ok (.ireturn, 1) := by decide +kernel
theorem d_Cmd_reset_0 : decode prog_3_method_2_code 0 = .ok (.aload_n 0, 1) := by decide +kernel
theorem d_Cmd_reset_1 : decode prog_3_method_2_code 1 = .ok (.iconst 0, 1) := by decide +kernel
theorem d_Cmd_reset_2 : decode prog_3_method_2_code 2 = .ok (.putfield 28, 3) := by decide +kernel
theorem d_Cmd_reset_5 : decode prog_3_method_2_code 5 = .ok (.aload_n 0, 1) := by decide +kernel
theorem d_Cmd_reset_6 : decode prog_3_method_2_code 6 = .ok (.iconst 0, 1) := by decide +kernel
theorem d_Cmd_reset_7 : decode prog_3_method_2_code 7 = .ok (.putfield 32, 3) := by decide +kernel
theorem d_Cmd_reset_10 : decode prog_3_method_2_code 10 = .ok (.aload_n 0, 1) := by decide +kernel
theorem d_Cmd_reset_11 : decode prog_3_method_2_code 11 = .ok (.iconst (-1), 1) := by decide +kernel
theorem d_Cmd_reset_12 : decode prog_3_method_2_code 12 = .ok (.putfield 36, 3) := by decide +kernel
theorem d_Cmd_reset_15 : decode prog_3_method_2_code 15 = .ok (.aload_n 0, 1) := by decide +kernel
theorem d_Cmd_reset_16 : decode prog_3_method_2_code 16 = .ok (.iconst 0, 1) := by decide +kernel
theorem d_Cmd_reset_17 : decode prog_3_method_2_code 17 = .ok (.putfield 39, 3) := by decide +kernel
theorem d_Cmd_reset_20 : decode prog_3_method_2_code 20 = .ok (.aload_n 0, 1) := by decide +kernel
theorem d_Cmd_reset_21 : decode prog_3_method_2_code 21 = .ok (.iconst 0, 1) := by decide +kernel
theorem d_Cmd_reset_22 : decode prog_3_method_2_code 22 = .ok (.putfield 42, 3) := by decide +kernel
theorem d_Cmd_reset_25 : decode prog_3_method_2_code 25 = .ok (.aload_n 0, 1) := by decide +kernel
theorem d_Cmd_reset_26 : decode prog_3_method_2_code 26 = .ok (.iconst 0, 1) := by decide +kernel
theorem d_Cmd_reset_27 : decode prog_3_method_2_code 27 = .ok (.putfield 45, 3) := by decide +kernel
theorem d_Cmd_reset_30 : decode prog_3_method_2_code 30 = .ok (.return_, 1) := by decide +kernel
theorem d_Cmd_replaces_0 : decode prog_3_method_3_code 0 = .ok (.aload_n 0, 1) := by decide +kernel
theorem d_Cmd_replaces_1 : decode prog_3_method_3_code 1 = .ok (.getfield 45, 3) := by decide +kernel
theorem d_Cmd_replaces_4 : decode prog_3_method_3_code 4 = .ok (.iconst 1, 1) := by decide +kernel
theorem d_Cmd_replaces_5 : decode prog_3_method_3_code 5 = .ok (.invokestatic 48, 3) := by decide +kernel
theorem d_Cmd_replaces_8 : decode prog_3_method_3_code 8 = .ok (.istore_n 2, 1) := by decide +kernel
theorem d_Cmd_replaces_9 : decode prog_3_method_3_code 9 = .ok (.aload_n 0, 1) := by decide +kernel
theorem d_Cmd_replaces_10 : decode prog_3_method_3_code 10 = .ok (.getfield 39, 3) := by decide +kernel
theorem d_Cmd_replaces_13 : decode prog_3_method_3_code 13 = .ok (.ifCond .eq 16, 3) := by decide +kernel
theorem d_Cmd_replaces_16 : decode prog_3_method_3_code 16 = .ok (.iload_n 1, 1) := by decide +kernel
theorem d_Cmd_replaces_17 : decode prog_3_method_3_code 17 = .ok (.iload_n 2, 1) := by decide +kernel
theorem d_Cmd_replaces_18 : decode prog_3_method_3_code 18 = .ok (.if_icmp .lt 7, 3) := by decide +kernel
theorem d_Cmd_replaces_21 : decode prog_3_method_3_code 21 = .ok (.iconst 1, 1) := by decide +kernel
theorem d_Cmd_replaces_22 : decode prog_3_method_3_code 22 = .ok (.goto 17, 3) := by decide +kernel
theorem d_Cmd_replaces_25 : decode prog_3_method_3_code 25 = .ok (.iconst 0, 1) := by decide +kernel
theorem d_Cmd_replaces_26 : decode prog_3_method_3_code 26 = .ok (.goto 13, 3) := by decide +kernel
theorem d_Cmd_replaces_29 : decode prog_3_method_3_code 29 = .ok (.iload_n 1, 1) := by decide +kernel
theorem d_Cmd_replaces_30 : decode prog_3_method_3_code 30 = .ok (.iload_n 2, 1) := by decide +kernel
theorem d_Cmd_replaces_31 : decode prog_3_method_3_code 31 = .ok (.if_icmp .ne 7, 3) := by decide +kernel
theorem d_Cmd_replaces_34 : decode prog_3_method_3_code 34 = .ok (.iconst 1, 1) := by decide +kernel
theorem d_Cmd_replaces_35 : decode prog_3_method_3_code 35 = .ok (.goto 4, 3) := by decide +kernel
theorem d_Cmd_replaces_38 : decode prog_3_method_3_code 38 = .ok (.iconst 0, 1) := by decide +kernel
theorem d_Cmd_replaces_39 : decode prog_3_method_3_code 39 = .ok (.ireturn, 1) := by decide +kernel
