theorem d_Pa_refusedAt_0 : decode prog_8_method_2_code 0 = .ok (.aload_n 0, 1) := by decide +kernel
theorem d_Pa_refusedAt_1 : decode prog_8_method_2_code 1 = .ok (.getfield 12, 3) := by decide +kernel
theorem d_Pa_refusedAt_4 : decode prog_8_method_2_code 4 = .ok (.getfield 34, 3) := by decide +kernel
theorem d_Pa_refusedAt_7 : decode prog_8_method_2_code 7 = .ok (.ireturn, 1) := by decide +kernel
theorem d_Pa_begin_0 : decode prog_8_method_4_code 0 = .ok (.aload_n 0, 1) := by decide +kernel
theorem d_Pa_begin_1 : decode prog_8_method_4_code 1 = .ok (.aload_n 2, 1) := by decide +kernel
theorem d_Pa_begin_2 : decode prog_8_method_4_code 2 = .ok (.putfield 72, 3) := by decide +kernel
theorem d_Pa_begin_5 : decode prog_8_method_4_code 5 = .ok (.aload_n 0, 1) := by decide +kernel
theorem d_Pa_begin_6 : decode prog_8_method_4_code 6 = .ok (.getfield 72, 3) := by decide +kernel
theorem d_Pa_begin_9 : decode prog_8_method_4_code 9 = .ok (.getfield 76, 3) := by decide +kernel
theorem d_Pa_begin_12 : decode prog_8_method_4_code 12 = .ok (.invokevirtual 82, 3) := by decide +kernel
theorem d_Pa_begin_15 : decode prog_8_method_4_code 15 = .ok (.aload_n 0, 1) := by decide +kernel
theorem d_Pa_begin_16 : decode prog_8_method_4_code 16 = .ok (.getfield 72, 3) := by decide +kernel
theorem d_Pa_begin_19 : decode prog_8_method_4_code 19 = .ok (.getfield 76, 3) := by decide +kernel
theorem d_Pa_begin_22 : decode prog_8_method_4_code 22 = .ok (.aload_n 1, 1) := by decide +kernel
theorem d_Pa_begin_23 : decode prog_8_method_4_code 23 = .ok (.iconst 0, 1) := by decide +kernel
theorem d_Pa_begin_24 : decode prog_8_method_4_code 24 = .ok (.aload_n 1, 1) := by decide +kernel
theorem d_Pa_begin_25 : decode prog_8_method_4_code 25 = .ok (.getfield 87, 3) := by decide +kernel
theorem d_Pa_begin_28 : decode prog_8_method_4_code 28 = .ok (.invokevirtual 90, 3) := by decide +kernel
theorem d_Pa_begin_31 : decode prog_8_method_4_code 31 = .ok (.aload_n 0, 1) := by decide +kernel
theorem d_Pa_begin_32 : decode prog_8_method_4_code 32 = .ok (.getfield 72, 3) := by decide +kernel
theorem d_Pa_begin_35 : decode prog_8_method_4_code 35 = .ok (.getfield 94, 3) := by decide +kernel
theorem d_Pa_begin_38 : decode prog_8_method_4_code 38 = .ok (.iconst 0, 1) := by decide +kernel
theorem d_Pa_begin_39 : decode prog_8_method_4_code 39 = .ok (.putfield 98, 3) := by decide +kernel
theorem d_Pa_begin_42 : decode prog_8_method_4_code 42 = .ok (.aload_n 0, 1) := by decide +kernel
theorem d_Pa_begin_43 : decode prog_8_method_4_code 43 = .ok (.getfield 72, 3) := by decide +kernel
theorem d_Pa_begin_46 : decode prog_8_method_4_code 46 = .ok (.iconst 0, 1) := by decide +kernel
theorem d_Pa_begin_47 : decode prog_8_method_4_code 47 = .ok (.putfield 103, 3) := by decide +kernel
theorem d_Pa_begin_50 : decode prog_8_method_4_code 50 = .ok (.aload_n 0, 1) := by decide +kernel
theorem d_Pa_begin_51 : decode prog_8_method_4_code 51 = .ok (.getfield 12, 3) := by decide +kernel
theorem d_Pa_begin_54 : decode prog_8_method_4_code 54 = .ok (.aload_n 0, 1) := by decide +kernel
theorem d_Pa_begin_55 : decode prog_8_method_4_code 55 = .ok (.getfield 72, 3) := by decide +kernel
theorem d_Pa_begin_58 : decode prog_8_method_4_code 58 = .ok (.getfield 76, 3) := by decide +kernel
theorem d_Pa_begin_61 : decode prog_8_method_4_code 61 = .ok (.putfield 104, 3) := by decide +kernel
theorem d_Pa_begin_64 : decode prog_8_method_4_code 64 = .ok (.aload_n 0, 1) := by decide +kernel
theorem d_Pa_begin_65 : decode prog_8_method_4_code 65 = .ok (.getfield 12, 3) := by decide +kernel
theorem d_Pa_begin_68 : decode prog_8_method_4_code 68 = .ok (.iconst 0, 1) := by decide +kernel
theorem d_Pa_begin_69 : decode prog_8_method_4_code 69 = .ok (.putfield 46, 3) := by decide +kernel
theorem d_Pa_begin_72 : decode prog_8_method_4_code 72 = .ok (.aload_n 0, 1) := by decide +kernel
theorem d_Pa_begin_73 : decode prog_8_method_4_code 73 = .ok (.iconst 0, 1) := by decide +kernel
theorem d_Pa_begin_74 : decode prog_8_method_4_code 74 = .ok (.putfield 62, 3) := by decide +kernel
theorem d_Pa_begin_77 : decode prog_8_method_4_code 77 = .ok (.iconst 0, 1) := by decide +kernel
theorem d_Pa_begin_78 : decode prog_8_method_4_code 78 = .ok (.istore_n 3, 1) := by decide +kernel
theorem d_Pa_begin_79 : decode prog_8_method_4_code 79 = .ok (.iload_n 3, 1) := by decide +kernel
theorem d_Pa_begin_80 : decode prog_8_method_4_code 80 = .ok (.bipush 26, 2) := by decide +kernel
theorem d_Pa_begin_82 : decode prog_8_method_4_code 82 = .ok (.if_icmp .ge 16, 3) := by decide +kernel
theorem d_Pa_begin_85 : decode prog_8_method_4_code 85 = .ok (.aload_n 0, 1) := by decide +kernel
theorem d_Pa_begin_86 : decode prog_8_method_4_code 86 = .ok (.getfield 31, 3) := by decide +kernel
theorem d_Pa_begin_89 : decode prog_8_method_4_code 89 = .ok (.iload_n 3, 1) := by decide +kernel
theorem d_Pa_begin_90 : decode prog_8_method_4_code 90 = .ok (.iconst (-1), 1) := by decide +kernel
theorem d_Pa_begin_91 : decode prog_8_method_4_code 91 = .ok (.iastore, 1) := by decide +kernel
theorem d_Pa_begin_92 : decode prog_8_method_4_code 92 = .ok (.iinc 3 1, 3) := by decide +kernel
theorem d_Pa_begin_95 : decode prog_8_method_4_code 95 = .ok (.goto (-16), 3) := by decide +kernel
theorem d_Pa_begin_98 : decode prog_8_method_4_code 98 = .ok (.return_, 1) := by decide +kernel
theorem d_Pa_closeBlock_0 : decode prog_8_method_5_code 0 = .ok (.aload_n 0, 1) := by decide +kernel
theorem d_Pa_closeBlock_1 : decode prog_8_method_5_code 1 = .ok (.getfield 62, 3) := by decide +kernel
theorem d_Pa_closeBlock_4 : decode prog_8_method_5_code 4 = .ok (.ifCond .ne 12, 3) := by decide +kernel
theorem d_Pa_closeBlock_7 : decode prog_8_method_5_code 7 = .ok (.aload_n 0, 1) := by decide +kernel
theorem d_Pa_closeBlock_8 : decode prog_8_method_5_code 8 = .ok (.getfield 12, 3) := by decide +kernel
theorem d_Pa_closeBlock_11 : decode prog_8_method_5_code 11 = .ok (.iconst 0, 1) := by decide +kernel
theorem d_Pa_closeBlock_12 : decode prog_8_method_5_code 12 = .ok (.invokevirtual 68, 3) := by decide +kernel
theorem d_Pa_closeBlock_15 : decode prog_8_method_5_code 15 = .ok (.ireturn, 1) := by decide +kernel
theorem d_Pa_closeBlock_16 : decode prog_8_method_5_code 16 = .ok (.aload_n 0, 1) := by decide +kernel
theorem d_Pa_closeBlock_17 : decode prog_8_method_5_code 17 = .ok (.dup, 1) := by decide +kernel
theorem d_Pa_closeBlock_18 : decode prog_8_method_5_code 18 = .ok (.getfield 62, 3) := by decide +kernel
theorem d_Pa_closeBlock_21 : decode prog_8_method_5_code 21 = .ok (.iconst 1, 1) := by decide +kernel
theorem d_Pa_closeBlock_22 : decode prog_8_method_5_code 22 = .ok (.isub, 1) := by decide +kernel
theorem d_Pa_closeBlock_23 : decode prog_8_method_5_code 23 = .ok (.putfield 62, 3) := by decide +kernel
theorem d_Pa_closeBlock_26 : decode prog_8_method_5_code 26 = .ok (.aload_n 0, 1) := by decide +kernel
theorem d_Pa_closeBlock_27 : decode prog_8_method_5_code 27 = .ok (.getfield 72, 3) := by decide +kernel
theorem d_Pa_closeBlock_30 : decode prog_8_method_5_code 30 = .ok (.getfield 105, 3) := by decide +kernel
theorem d_Pa_closeBlock_33 : decode prog_8_method_5_code 33 = .ok (.aload_n 0, 1) := by decide +kernel
theorem d_Pa_closeBlock_34 : decode prog_8_method_5_code 34 = .ok (.getfield 27, 3) := by decide +kernel
theorem d_Pa_closeBlock_37 : decode prog_8_method_5_code 37 = .ok (.aload_n 0, 1) := by decide +kernel
theorem d_Pa_closeBlock_38 : decode prog_8_method_5_code 38 = .ok (.getfield 62, 3) := by decide +kernel
theorem d_Pa_closeBlock_41 : decode prog_8_method_5_code 41 = .ok (.iaload, 1) := by decide +kernel
theorem d_Pa_closeBlock_42 : decode prog_8_method_5_code 42 = .ok (.aaload, 1) := by decide +kernel
theorem d_Pa_closeBlock_43 : decode prog_8_method_5_code 43 = .ok (.aload_n 0, 1) := by decide +kernel
theorem d_Pa_closeBlock_44 : decode prog_8_method_5_code 44 = .ok (.getfield 72, 3) := by decide +kernel
theorem d_Pa_closeBlock_47 : decode prog_8_method_5_code 47 = .ok (.getfield 103, 3) := by decide +kernel
theorem d_Pa_closeBlock_50 : decode prog_8_method_5_code 50 = .ok (.putfield 109, 3) := by decide +kernel
theorem d_Pa_closeBlock_53 : decode prog_8_method_5_code 53 = .ok (.aload_n 0, 1) := by decide +kernel
theorem d_Pa_closeBlock_54 : decode prog_8_method_5_code 54 = .ok (.getfield 12, 3) := by decide +kernel
theorem d_Pa_closeBlock_57 : decode prog_8_method_5_code 57 = .ok (.dup, 1) := by decide +kernel
theorem d_Pa_closeBlock_58 : decode prog_8_method_5_code 58 = .ok (.getfield 46, 3) := by decide +kernel
theorem d_Pa_closeBlock_61 : decode prog_8_method_5_code 61 = .ok (.iconst 1, 1) := by decide +kernel
theorem d_Pa_closeBlock_62 : decode prog_8_method_5_code 62 = .ok (.iadd, 1) := by decide +kernel
theorem d_Pa_closeBlock_63 : decode prog_8_method_5_code 63 = .ok (.putfield 46, 3) := by decide +kernel
theorem d_Pa_closeBlock_66 : decode prog_8_method_5_code 66 = .ok (.iconst 1, 1) := by decide +kernel
theorem d_Pa_closeBlock_67 : decode prog_8_method_5_code 67 = .ok (.ireturn, 1) := by decide +kernel
theorem d_Pa_beginCommand_0 : decode prog_8_method_6_code 0 = .ok (.aload_n 0, 1) := by decide +kernel
theorem d_Pa_beginCommand_1 : decode prog_8_method_6_code 1 = .ok (.getfield 72, 3) := by decide +kernel
theorem d_Pa_beginCommand_4 : decode prog_8_method_6_code 4 = .ok (.getfield 103, 3) := by decide +kernel
theorem d_Pa_beginCommand_7 : decode prog_8_method_6_code 7 = .ok (.bipush 40, 2) := by decide +kernel
theorem d_Pa_beginCommand_9 : decode prog_8_method_6_code 9 = .ok (.if_icmp .ne 12, 3) := by decide +kernel
theorem d_Pa_beginCommand_12 : decode prog_8_method_6_code 12 = .ok (.aload_n 0, 1) := by decide +kernel
theorem d_Pa_beginCommand_13 : decode prog_8_method_6_code 13 = .ok (.getfield 12, 3) := by decide +kernel
theorem d_Pa_beginCommand_16 : decode prog_8_method_6_code 16 = .ok (.iconst 0, 1) := by decide +kernel
theorem d_Pa_beginCommand_17 : decode prog_8_method_6_code 17 = .ok (.invokevirtual 68, 3) := by decide +kernel
theorem d_Pa_beginCommand_20 : decode prog_8_method_6_code 20 = .ok (.ireturn, 1) := by decide +kernel
theorem d_Pa_beginCommand_21 : decode prog_8_method_6_code 21 = .ok (.aload_n 0, 1) := by decide +kernel
theorem d_Pa_beginCommand_22 : decode prog_8_method_6_code 22 = .ok (.aload_n 0, 1) := by decide +kernel
theorem d_Pa_beginCommand_23 : decode prog_8_method_6_code 23 = .ok (.getfield 72, 3) := by decide +kernel
theorem d_Pa_beginCommand_26 : decode prog_8_method_6_code 26 = .ok (.getfield 105, 3) := by decide +kernel
theorem d_Pa_beginCommand_29 : decode prog_8_method_6_code 29 = .ok (.aload_n 0, 1) := by decide +kernel
theorem d_Pa_beginCommand_30 : decode prog_8_method_6_code 30 = .ok (.getfield 72, 3) := by decide +kernel
theorem d_Pa_beginCommand_33 : decode prog_8_method_6_code 33 = .ok (.getfield 103, 3) := by decide +kernel
theorem d_Pa_beginCommand_36 : decode prog_8_method_6_code 36 = .ok (.aaload, 1) := by decide +kernel
theorem d_Pa_beginCommand_37 : decode prog_8_method_6_code 37 = .ok (.putfield 114, 3) := by decide +kernel
theorem d_Pa_beginCommand_40 : decode prog_8_method_6_code 40 = .ok (.aload_n 0, 1) := by decide +kernel
theorem d_Pa_beginCommand_41 : decode prog_8_method_6_code 41 = .ok (.getfield 114, 3) := by decide +kernel
theorem d_Pa_beginCommand_44 : decode prog_8_method_6_code 44 = .ok (.invokevirtual 118, 3) := by decide +kernel
theorem d_Pa_beginCommand_47 : decode prog_8_method_6_code 47 = .ok (.aload_n 0, 1) := by decide +kernel
theorem d_Pa_beginCommand_48 : decode prog_8_method_6_code 48 = .ok (.getfield 72, 3) := by decide +kernel
theorem d_Pa_beginCommand_51 : decode prog_8_method_6_code 51 = .ok (.dup, 1) := by decide +kernel
theorem d_Pa_beginCommand_52 : decode prog_8_method_6_code 52 = .ok (.getfield 103, 3) := by decide +kernel
theorem d_Pa_beginCommand_55 : decode prog_8_method_6_code 55 = .ok (.iconst 1, 1) := by decide +kernel
theorem d_Pa_beginCommand_56 : decode prog_8_method_6_code 56 = .ok (.iadd, 1) := by decide +kernel
theorem d_Pa_beginCommand_57 : decode prog_8_method_6_code 57 = .ok (.putfield 103, 3) := by decide +kernel
theorem d_Pa_beginCommand_60 : decode prog_8_method_6_code 60 = .ok (.iconst 1, 1) := by decide +kernel
theorem d_Pa_beginCommand_61 : decode prog_8_method_6_code 61 = .ok (.ireturn, 1) := by decide +kernel
theorem d_Pa_startsAddress_0 : decode prog_8_method_8_code 0 = .ok (.iload_n 0, 1) := by decide +kernel
theorem d_Pa_startsAddress_1 : decode prog_8_method_8_code 1 = .ok (.bipush 36, 2) := by decide +kernel
theorem d_Pa_startsAddress_3 : decode prog_8_method_8_code 3 = .ok (.if_icmp .eq 21, 3) := by decide +kernel
theorem d_Pa_startsAddress_6 : decode prog_8_method_8_code 6 = .ok (.iload_n 0, 1) := by decide +kernel
theorem d_Pa_startsAddress_7 : decode prog_8_method_8_code 7 = .ok (.bipush 47, 2) := by decide +kernel
theorem d_Pa_startsAddress_9 : decode prog_8_method_8_code 9 = .ok (.if_icmp .eq 15, 3) := by decide +kernel
theorem d_Pa_startsAddress_12 : decode prog_8_method_8_code 12 = .ok (.iload_n 0, 1) := by decide +kernel
theorem d_Pa_startsAddress_13 : decode prog_8_method_8_code 13 = .ok (.bipush 49, 2) := by decide +kernel
theorem d_Pa_startsAddress_15 : decode prog_8_method_8_code 15 = .ok (.if_icmp .lt 13, 3) := by decide +kernel
theorem d_Pa_startsAddress_18 : decode prog_8_method_8_code 18 = .ok (.iload_n 0, 1) := by decide +kernel
theorem d_Pa_startsAddress_19 : decode prog_8_method_8_code 19 = .ok (.bipush 57, 2) := by decide +kernel
theorem d_Pa_startsAddress_21 : decode prog_8_method_8_code 21 = .ok (.if_icmp .gt 7, 3) := by decide +kernel
theorem d_Pa_startsAddress_24 : decode prog_8_method_8_code 24 = .ok (.iconst 1, 1) := by decide +kernel
theorem d_Pa_startsAddress_25 : decode prog_8_method_8_code 25 = .ok (.goto 4, 3) := by decide +kernel
theorem d_Pa_startsAddress_28 : decode prog_8_method_8_code 28 = .ok (.iconst 0, 1) := by decide +kernel
theorem d_Pa_startsAddress_29 : decode prog_8_method_8_code 29 = .ok (.ireturn, 1) := by decide +kernel
theorem d_Pa_readAddress_0 : decode prog_8_method_10_code 0 = .ok (.aload_n 0, 1) := by decide +kernel
theorem d_Pa_readAddress_1 : decode prog_8_method_10_code 1 = .ok (.getfield 12, 3) := by decide +kernel
theorem d_Pa_readAddress_4 : decode prog_8_method_10_code 4 = .ok (.iconst 0, 1) := by decide +kernel
theorem d_Pa_readAddress_5 : decode prog_8_method_10_code 5 = .ok (.invokevirtual 42, 3) := by decide +kernel
theorem d_Pa_readAddress_8 : decode prog_8_method_10_code 8 = .ok (.istore_n 2, 1) := by decide +kernel
theorem d_Pa_readAddress_9 : decode prog_8_method_10_code 9 = .ok (.iload_n 2, 1) := by decide +kernel
theorem d_Pa_readAddress_10 : decode prog_8_method_10_code 10 = .ok (.invokestatic 121, 3) := by decide +kernel
theorem d_Pa_readAddress_13 : decode prog_8_method_10_code 13 = .ok (.ifCond .ne 12, 3) := by decide +kernel
theorem d_Pa_readAddress_16 : decode prog_8_method_10_code 16 = .ok (.aload_n 0, 1) := by decide +kernel
theorem d_Pa_readAddress_17 : decode prog_8_method_10_code 17 = .ok (.getfield 12, 3) := by decide +kernel
theorem d_Pa_readAddress_20 : decode prog_8_method_10_code 20 = .ok (.iconst 0, 1) := by decide +kernel
theorem d_Pa_readAddress_21 : decode prog_8_method_10_code 21 = .ok (.invokevirtual 68, 3) := by decide +kernel
theorem d_Pa_readAddress_24 : decode prog_8_method_10_code 24 = .ok (.ireturn, 1) := by decide +kernel
theorem d_Pa_readAddress_25 : decode prog_8_method_10_code 25 = .ok (.aload_n 0, 1) := by decide +kernel
theorem d_Pa_readAddress_26 : decode prog_8_method_10_code 26 = .ok (.getfield 12, 3) := by decide +kernel
theorem d_Pa_readAddress_29 : decode prog_8_method_10_code 29 = .ok (.dup, 1) := by decide +kernel
theorem d_Pa_readAddress_30 : decode prog_8_method_10_code 30 = .ok (.getfield 46, 3) := by decide +kernel
theorem d_Pa_readAddress_33 : decode prog_8_method_10_code 33 = .ok (.iconst 1, 1) := by decide +kernel
theorem d_Pa_readAddress_34 : decode prog_8_method_10_code 34 = .ok (.iadd, 1) := by decide +kernel
theorem d_Pa_readAddress_35 : decode prog_8_method_10_code 35 = .ok (.putfield 46, 3) := by decide +kernel
theorem d_Pa_readAddress_38 : decode prog_8_method_10_code 38 = .ok (.iload_n 2, 1) := by decide +kernel
theorem d_Pa_readAddress_39 : decode prog_8_method_10_code 39 = .ok (.bipush 47, 2) := by decide +kernel
theorem d_Pa_readAddress_41 : decode prog_8_method_10_code 41 = .ok (.if_icmp .ne 27, 3) := by decide +kernel
theorem d_Pa_readAddress_44 : decode prog_8_method_10_code 44 = .ok (.aload_n 1, 1) := by decide +kernel
theorem d_Pa_readAddress_45 : decode prog_8_method_10_code 45 = .ok (.iconst 2, 1) := by decide +kernel
theorem d_Pa_readAddress_46 : decode prog_8_method_10_code 46 = .ok (.putfield 147, 3) := by decide +kernel
theorem d_Pa_readAddress_49 : decode prog_8_method_10_code 49 = .ok (.aload_n 0, 1) := by decide +kernel
theorem d_Pa_readAddress_50 : decode prog_8_method_10_code 50 = .ok (.getfield 23, 3) := by decide +kernel
theorem d_Pa_readAddress_53 : decode prog_8_method_10_code 53 = .ok (.aload_n 1, 1) := by decide +kernel
theorem d_Pa_readAddress_54 : decode prog_8_method_10_code 54 = .ok (.getfield 150, 3) := by decide +kernel
theorem d_Pa_readAddress_57 : decode prog_8_method_10_code 57 = .ok (.aload_n 0, 1) := by decide +kernel
theorem d_Pa_readAddress_58 : decode prog_8_method_10_code 58 = .ok (.getfield 72, 3) := by decide +kernel
theorem d_Pa_readAddress_61 : decode prog_8_method_10_code 61 = .ok (.getfield 94, 3) := by decide +kernel
theorem d_Pa_readAddress_64 : decode prog_8_method_10_code 64 = .ok (.invokevirtual 154, 3) := by decide +kernel
theorem d_Pa_readAddress_67 : decode prog_8_method_10_code 67 = .ok (.ireturn, 1) := by decide +kernel
theorem d_Pa_readAddress_68 : decode prog_8_method_10_code 68 = .ok (.iload_n 2, 1) := by decide +kernel
theorem d_Pa_readAddress_69 : decode prog_8_method_10_code 69 = .ok (.bipush 36, 2) := by decide +kernel
theorem d_Pa_readAddress_71 : decode prog_8_method_10_code 71 = .ok (.if_icmp .ne 10, 3) := by decide +kernel
theorem d_Pa_readAddress_74 : decode prog_8_method_10_code 74 = .ok (.aload_n 1, 1) := by decide +kernel
theorem d_Pa_readAddress_75 : decode prog_8_method_10_code 75 = .ok (.iconst 1, 1) := by decide +kernel
theorem d_Pa_readAddress_76 : decode prog_8_method_10_code 76 = .ok (.putfield 147, 3) := by decide +kernel
theorem d_Pa_readAddress_79 : decode prog_8_method_10_code 79 = .ok (.iconst 1, 1) := by decide +kernel
theorem d_Pa_readAddress_80 : decode prog_8_method_10_code 80 = .ok (.ireturn, 1) := by decide +kernel
theorem d_Pa_readAddress_81 : decode prog_8_method_10_code 81 = .ok (.aload_n 1, 1) := by decide +kernel
theorem d_Pa_readAddress_82 : decode prog_8_method_10_code 82 = .ok (.iconst 0, 1) := by decide +kernel
theorem d_Pa_readAddress_83 : decode prog_8_method_10_code 83 = .ok (.putfield 147, 3) := by decide +kernel
theorem d_Pa_readAddress_86 : decode prog_8_method_10_code 86 = .ok (.aload_n 1, 1) := by decide +kernel
theorem d_Pa_readAddress_87 : decode prog_8_method_10_code 87 = .ok (.iload_n 2, 1) := by decide +kernel
theorem d_Pa_readAddress_88 : decode prog_8_method_10_code 88 = .ok (.bipush 48, 2) := by decide +kernel
theorem d_Pa_readAddress_90 : decode prog_8_method_10_code 90 = .ok (.isub, 1) := by decide +kernel
theorem d_Pa_readAddress_91 : decode prog_8_method_10_code 91 = .ok (.putfield 158, 3) := by decide +kernel
theorem d_Pa_readAddress_94 : decode prog_8_method_10_code 94 = .ok (.aload_n 0, 1) := by decide +kernel
theorem d_Pa_readAddress_95 : decode prog_8_method_10_code 95 = .ok (.getfield 12, 3) := by decide +kernel
theorem d_Pa_readAddress_98 : decode prog_8_method_10_code 98 = .ok (.iconst 0, 1) := by decide +kernel
theorem d_Pa_readAddress_99 : decode prog_8_method_10_code 99 = .ok (.invokevirtual 42, 3) := by decide +kernel
theorem d_Pa_readAddress_102 : decode prog_8_method_10_code 102 = .ok (.istore_n 3, 1) := by decide +kernel
theorem d_Pa_readAddress_103 : decode prog_8_method_10_code 103 = .ok (.iload_n 3, 1) := by decide +kernel
theorem d_Pa_readAddress_104 : decode prog_8_method_10_code 104 = .ok (.bipush 48, 2) := by decide +kernel
theorem d_Pa_readAddress_106 : decode prog_8_method_10_code 106 = .ok (.if_icmp .lt 38, 3) := by decide +kernel
theorem d_Pa_readAddress_109 : decode prog_8_method_10_code 109 = .ok (.iload_n 3, 1) := by decide +kernel
theorem d_Pa_readAddress_110 : decode prog_8_method_10_code 110 = .ok (.bipush 57, 2) := by decide +kernel
theorem d_Pa_readAddress_112 : decode prog_8_method_10_code 112 = .ok (.if_icmp .gt 32, 3) := by decide +kernel
theorem d_Pa_readAddress_115 : decode prog_8_method_10_code 115 = .ok (.aload_n 1, 1) := by decide +kernel
theorem d_Pa_readAddress_116 : decode prog_8_method_10_code 116 = .ok (.bipush 10, 2) := by decide +kernel
theorem d_Pa_readAddress_118 : decode prog_8_method_10_code 118 = .ok (.aload_n 1, 1) := by decide +kernel
theorem d_Pa_readAddress_119 : decode prog_8_method_10_code 119 = .ok (.getfield 158, 3) := by decide +kernel
theorem d_Pa_readAddress_122 : decode prog_8_method_10_code 122 = .ok (.imul, 1) := by decide +kernel
theorem d_Pa_readAddress_123 : decode prog_8_method_10_code 123 = .ok (.iload_n 3, 1) := by decide +kernel
theorem d_Pa_readAddress_124 : decode prog_8_method_10_code 124 = .ok (.iadd, 1) := by decide +kernel
theorem d_Pa_readAddress_125 : decode prog_8_method_10_code 125 = .ok (.bipush 48, 2) := by decide +kernel
theorem d_Pa_readAddress_127 : decode prog_8_method_10_code 127 = .ok (.isub, 1) := by decide +kernel
theorem d_Pa_readAddress_128 : decode prog_8_method_10_code 128 = .ok (.putfield 158, 3) := by decide +kernel
theorem d_Pa_readAddress_131 : decode prog_8_method_10_code 131 = .ok (.aload_n 0, 1) := by decide +kernel
theorem d_Pa_readAddress_132 : decode prog_8_method_10_code 132 = .ok (.getfield 12, 3) := by decide +kernel
theorem d_Pa_readAddress_135 : decode prog_8_method_10_code 135 = .ok (.dup, 1) := by decide +kernel
theorem d_Pa_readAddress_136 : decode prog_8_method_10_code 136 = .ok (.getfield 46, 3) := by decide +kernel
theorem d_Pa_readAddress_139 : decode prog_8_method_10_code 139 = .ok (.iconst 1, 1) := by decide +kernel
theorem d_Pa_readAddress_140 : decode prog_8_method_10_code 140 = .ok (.iadd, 1) := by decide +kernel
theorem d_Pa_readAddress_141 : decode prog_8_method_10_code 141 = .ok (.putfield 46, 3) := by decide +kernel
theorem d_Pa_readAddress_144 : decode prog_8_method_10_code 144 = .ok (.iconst 1, 1) := by decide +kernel
theorem d_Pa_readAddress_145 : decode prog_8_method_10_code 145 = .ok (.ireturn, 1) := by decide +kernel
theorem d_Pa_passBlanks_0 : decode prog_8_method_9_code 0 = .ok (.iconst 0, 1) := by decide +kernel
theorem d_Pa_passBlanks_1 : decode prog_8_method_9_code 1 = .ok (.istore_n 1, 1) := by decide +kernel
theorem d_Pa_passBlanks_2 : decode prog_8_method_9_code 2 = .ok (.iload_n 1, 1) := by decide +kernel
theorem d_Pa_passBlanks_3 : decode prog_8_method_9_code 3 = .ok (.sipush 240, 3) := by decide +kernel
theorem d_Pa_passBlanks_6 : decode prog_8_method_9_code 6 = .ok (.if_icmp .ge 35, 3) := by decide +kernel
theorem d_Pa_passBlanks_9 : decode prog_8_method_9_code 9 = .ok (.aload_n 0, 1) := by decide +kernel
theorem d_Pa_passBlanks_10 : decode prog_8_method_9_code 10 = .ok (.getfield 12, 3) := by decide +kernel
theorem d_Pa_passBlanks_13 : decode prog_8_method_9_code 13 = .ok (.iconst 0, 1) := by decide +kernel
theorem d_Pa_passBlanks_14 : decode prog_8_method_9_code 14 = .ok (.invokevirtual 42, 3) := by decide +kernel
theorem d_Pa_passBlanks_17 : decode prog_8_method_9_code 17 = .ok (.bipush 32, 2) := by decide +kernel
theorem d_Pa_passBlanks_19 : decode prog_8_method_9_code 19 = .ok (.if_icmp .ne 22, 3) := by decide +kernel
theorem d_Pa_passBlanks_22 : decode prog_8_method_9_code 22 = .ok (.aload_n 0, 1) := by decide +kernel
theorem d_Pa_passBlanks_23 : decode prog_8_method_9_code 23 = .ok (.getfield 12, 3) := by decide +kernel
theorem d_Pa_passBlanks_26 : decode prog_8_method_9_code 26 = .ok (.dup, 1) := by decide +kernel
theorem d_Pa_passBlanks_27 : decode prog_8_method_9_code 27 = .ok (.getfield 46, 3) := by decide +kernel
theorem d_Pa_passBlanks_30 : decode prog_8_method_9_code 30 = .ok (.iconst 1, 1) := by decide +kernel
theorem d_Pa_passBlanks_31 : decode prog_8_method_9_code 31 = .ok (.iadd, 1) := by decide +kernel
theorem d_Pa_passBlanks_32 : decode prog_8_method_9_code 32 = .ok (.putfield 46, 3) := by decide +kernel
theorem d_Pa_passBlanks_35 : decode prog_8_method_9_code 35 = .ok (.iinc 1 1, 3) := by decide +kernel
theorem d_Pa_passBlanks_38 : decode prog_8_method_9_code 38 = .ok (.goto (-36), 3) := by decide +kernel
theorem d_Pa_passBlanks_41 : decode prog_8_method_9_code 41 = .ok (.return_, 1) := by decide +kernel
theorem d_Pa_readAddresses_0 : decode prog_8_method_7_code 0 = .ok (.aload_n 0, 1) := by decide +kernel
theorem d_Pa_readAddresses_1 : decode prog_8_method_7_code 1 = .ok (.getfield 12, 3) := by decide +kernel
theorem d_Pa_readAddresses_4 : decode prog_8_method_7_code 4 = .ok (.iconst 0, 1) := by decide +kernel
theorem d_Pa_readAddresses_5 : decode prog_8_method_7_code 5 = .ok (.invokevirtual 42, 3) := by decide +kernel
theorem d_Pa_readAddresses_8 : decode prog_8_method_7_code 8 = .ok (.invokestatic 121, 3) := by decide +kernel
theorem d_Pa_readAddresses_11 : decode prog_8_method_7_code 11 = .ok (.ifCond .eq 77, 3) := by decide +kernel
theorem d_Pa_readAddresses_14 : decode prog_8_method_7_code 14 = .ok (.aload_n 0, 1) := by decide +kernel
theorem d_Pa_readAddresses_15 : decode prog_8_method_7_code 15 = .ok (.aload_n 0, 1) := by decide +kernel
theorem d_Pa_readAddresses_16 : decode prog_8_method_7_code 16 = .ok (.getfield 114, 3) := by decide +kernel
theorem d_Pa_readAddresses_19 : decode prog_8_method_7_code 19 = .ok (.getfield 124, 3) := by decide +kernel
theorem d_Pa_readAddresses_22 : decode prog_8_method_7_code 22 = .ok (.invokevirtual 128, 3) := by decide +kernel
theorem d_Pa_readAddresses_25 : decode prog_8_method_7_code 25 = .ok (.ifCond .ne 5, 3) := by decide +kernel
theorem d_Pa_readAddresses_28 : decode prog_8_method_7_code 28 = .ok (.iconst 0, 1) := by decide +kernel
theorem d_Pa_readAddresses_29 : decode prog_8_method_7_code 29 = .ok (.ireturn, 1) := by decide +kernel
theorem d_Pa_readAddresses_30 : decode prog_8_method_7_code 30 = .ok (.aload_n 0, 1) := by decide +kernel
theorem d_Pa_readAddresses_31 : decode prog_8_method_7_code 31 = .ok (.getfield 114, 3) := by decide +kernel
theorem d_Pa_readAddresses_34 : decode prog_8_method_7_code 34 = .ok (.iconst 1, 1) := by decide +kernel
theorem d_Pa_readAddresses_35 : decode prog_8_method_7_code 35 = .ok (.putfield 132, 3) := by decide +kernel
theorem d_Pa_readAddresses_38 : decode prog_8_method_7_code 38 = .ok (.aload_n 0, 1) := by decide +kernel
theorem d_Pa_readAddresses_39 : decode prog_8_method_7_code 39 = .ok (.getfield 12, 3) := by decide +kernel
theorem d_Pa_readAddresses_42 : decode prog_8_method_7_code 42 = .ok (.iconst 0, 1) := by decide +kernel
theorem d_Pa_readAddresses_43 : decode prog_8_method_7_code 43 = .ok (.invokevirtual 42, 3) := by decide +kernel
theorem d_Pa_readAddresses_46 : decode prog_8_method_7_code 46 = .ok (.bipush 44, 2) := by decide +kernel
theorem d_Pa_readAddresses_48 : decode prog_8_method_7_code 48 = .ok (.if_icmp .ne 40, 3) := by decide +kernel
theorem d_Pa_readAddresses_51 : decode prog_8_method_7_code 51 = .ok (.aload_n 0, 1) := by decide +kernel
theorem d_Pa_readAddresses_52 : decode prog_8_method_7_code 52 = .ok (.getfield 12, 3) := by decide +kernel
theorem d_Pa_readAddresses_55 : decode prog_8_method_7_code 55 = .ok (.dup, 1) := by decide +kernel
theorem d_Pa_readAddresses_56 : decode prog_8_method_7_code 56 = .ok (.getfield 46, 3) := by decide +kernel
theorem d_Pa_readAddresses_59 : decode prog_8_method_7_code 59 = .ok (.iconst 1, 1) := by decide +kernel
theorem d_Pa_readAddresses_60 : decode prog_8_method_7_code 60 = .ok (.iadd, 1) := by decide +kernel
theorem d_Pa_readAddresses_61 : decode prog_8_method_7_code 61 = .ok (.putfield 46, 3) := by decide +kernel
theorem d_Pa_readAddresses_64 : decode prog_8_method_7_code 64 = .ok (.aload_n 0, 1) := by decide +kernel
theorem d_Pa_readAddresses_65 : decode prog_8_method_7_code 65 = .ok (.aload_n 0, 1) := by decide +kernel
theorem d_Pa_readAddresses_66 : decode prog_8_method_7_code 66 = .ok (.getfield 114, 3) := by decide +kernel
theorem d_Pa_readAddresses_69 : decode prog_8_method_7_code 69 = .ok (.getfield 135, 3) := by decide +kernel
theorem d_Pa_readAddresses_72 : decode prog_8_method_7_code 72 = .ok (.invokevirtual 128, 3) := by decide +kernel
theorem d_Pa_readAddresses_75 : decode prog_8_method_7_code 75 = .ok (.ifCond .ne 5, 3) := by decide +kernel
theorem d_Pa_readAddresses_78 : decode prog_8_method_7_code 78 = .ok (.iconst 0, 1) := by decide +kernel
theorem d_Pa_readAddresses_79 : decode prog_8_method_7_code 79 = .ok (.ireturn, 1) := by decide +kernel
theorem d_Pa_readAddresses_80 : decode prog_8_method_7_code 80 = .ok (.aload_n 0, 1) := by decide +kernel
theorem d_Pa_readAddresses_81 : decode prog_8_method_7_code 81 = .ok (.getfield 114, 3) := by decide +kernel
theorem d_Pa_readAddresses_84 : decode prog_8_method_7_code 84 = .ok (.iconst 2, 1) := by decide +kernel
theorem d_Pa_readAddresses_85 : decode prog_8_method_7_code 85 = .ok (.putfield 132, 3) := by decide +kernel
theorem d_Pa_readAddresses_88 : decode prog_8_method_7_code 88 = .ok (.aload_n 0, 1) := by decide +kernel
theorem d_Pa_readAddresses_89 : decode prog_8_method_7_code 89 = .ok (.invokevirtual 138, 3) := by decide +kernel
theorem d_Pa_readAddresses_92 : decode prog_8_method_7_code 92 = .ok (.aload_n 0, 1) := by decide +kernel
theorem d_Pa_readAddresses_93 : decode prog_8_method_7_code 93 = .ok (.getfield 12, 3) := by decide +kernel
theorem d_Pa_readAddresses_96 : decode prog_8_method_7_code 96 = .ok (.iconst 0, 1) := by decide +kernel
theorem d_Pa_readAddresses_97 : decode prog_8_method_7_code 97 = .ok (.invokevirtual 42, 3) := by decide +kernel
theorem d_Pa_readAddresses_100 : decode prog_8_method_7_code 100 = .ok (.bipush 33, 2) := by decide +kernel
theorem d_Pa_readAddresses_102 : decode prog_8_method_7_code 102 = .ok (.if_icmp .ne 28, 3) := by decide +kernel
theorem d_Pa_readAddresses_105 : decode prog_8_method_7_code 105 = .ok (.aload_n 0, 1) := by decide +kernel
theorem d_Pa_readAddresses_106 : decode prog_8_method_7_code 106 = .ok (.getfield 114, 3) := by decide +kernel
theorem d_Pa_readAddresses_109 : decode prog_8_method_7_code 109 = .ok (.iconst 1, 1) := by decide +kernel
theorem d_Pa_readAddresses_110 : decode prog_8_method_7_code 110 = .ok (.putfield 141, 3) := by decide +kernel
theorem d_Pa_readAddresses_113 : decode prog_8_method_7_code 113 = .ok (.aload_n 0, 1) := by decide +kernel
theorem d_Pa_readAddresses_114 : decode prog_8_method_7_code 114 = .ok (.getfield 12, 3) := by decide +kernel
theorem d_Pa_readAddresses_117 : decode prog_8_method_7_code 117 = .ok (.dup, 1) := by decide +kernel
theorem d_Pa_readAddresses_118 : decode prog_8_method_7_code 118 = .ok (.getfield 46, 3) := by decide +kernel
theorem d_Pa_readAddresses_121 : decode prog_8_method_7_code 121 = .ok (.iconst 1, 1) := by decide +kernel
theorem d_Pa_readAddresses_122 : decode prog_8_method_7_code 122 = .ok (.iadd, 1) := by decide +kernel
theorem d_Pa_readAddresses_123 : decode prog_8_method_7_code 123 = .ok (.putfield 46, 3) := by decide +kernel
theorem d_Pa_readAddresses_126 : decode prog_8_method_7_code 126 = .ok (.aload_n 0, 1) := by decide +kernel
theorem d_Pa_readAddresses_127 : decode prog_8_method_7_code 127 = .ok (.invokevirtual 138, 3) := by decide +kernel
theorem d_Pa_readAddresses_130 : decode prog_8_method_7_code 130 = .ok (.iconst 1, 1) := by decide +kernel
theorem d_Pa_readAddresses_131 : decode prog_8_method_7_code 131 = .ok (.ireturn, 1) := by decide +kernel
theorem d_Pa_openBlock_0 : decode prog_8_method_13_code 0 = .ok (.aload_n 0, 1) := by decide +kernel
theorem d_Pa_openBlock_1 : decode prog_8_method_13_code 1 = .ok (.getfield 62, 3) := by decide +kernel
theorem d_Pa_openBlock_4 : decode prog_8_method_13_code 4 = .ok (.iconst 4, 1) := by decide +kernel
theorem d_Pa_openBlock_5 : decode prog_8_method_13_code 5 = .ok (.if_icmp .ne 12, 3) := by decide +kernel
theorem d_Pa_openBlock_8 : decode prog_8_method_13_code 8 = .ok (.aload_n 0, 1) := by decide +kernel
theorem d_Pa_openBlock_9 : decode prog_8_method_13_code 9 = .ok (.getfield 12, 3) := by decide +kernel
theorem d_Pa_openBlock_12 : decode prog_8_method_13_code 12 = .ok (.iconst 0, 1) := by decide +kernel
theorem d_Pa_openBlock_13 : decode prog_8_method_13_code 13 = .ok (.invokevirtual 68, 3) := by decide +kernel
theorem d_Pa_openBlock_16 : decode prog_8_method_13_code 16 = .ok (.ireturn, 1) := by decide +kernel
theorem d_Pa_openBlock_17 : decode prog_8_method_13_code 17 = .ok (.aload_n 0, 1) := by decide +kernel
theorem d_Pa_openBlock_18 : decode prog_8_method_13_code 18 = .ok (.getfield 27, 3) := by decide +kernel
theorem d_Pa_openBlock_21 : decode prog_8_method_13_code 21 = .ok (.aload_n 0, 1) := by decide +kernel
theorem d_Pa_openBlock_22 : decode prog_8_method_13_code 22 = .ok (.getfield 62, 3) := by decide +kernel
theorem d_Pa_openBlock_25 : decode prog_8_method_13_code 25 = .ok (.aload_n 0, 1) := by decide +kernel
theorem d_Pa_openBlock_26 : decode prog_8_method_13_code 26 = .ok (.getfield 72, 3) := by decide +kernel
theorem d_Pa_openBlock_29 : decode prog_8_method_13_code 29 = .ok (.getfield 103, 3) := by decide +kernel
theorem d_Pa_openBlock_32 : decode prog_8_method_13_code 32 = .ok (.iconst 1, 1) := by decide +kernel
theorem d_Pa_openBlock_33 : decode prog_8_method_13_code 33 = .ok (.isub, 1) := by decide +kernel
theorem d_Pa_openBlock_34 : decode prog_8_method_13_code 34 = .ok (.iastore, 1) := by decide +kernel
theorem d_Pa_openBlock_35 : decode prog_8_method_13_code 35 = .ok (.aload_n 0, 1) := by decide +kernel
theorem d_Pa_openBlock_36 : decode prog_8_method_13_code 36 = .ok (.dup, 1) := by decide +kernel
theorem d_Pa_openBlock_37 : decode prog_8_method_13_code 37 = .ok (.getfield 62, 3) := by decide +kernel
theorem d_Pa_openBlock_40 : decode prog_8_method_13_code 40 = .ok (.iconst 1, 1) := by decide +kernel
theorem d_Pa_openBlock_41 : decode prog_8_method_13_code 41 = .ok (.iadd, 1) := by decide +kernel
theorem d_Pa_openBlock_42 : decode prog_8_method_13_code 42 = .ok (.putfield 62, 3) := by decide +kernel
theorem d_Pa_openBlock_45 : decode prog_8_method_13_code 45 = .ok (.aload_n 0, 1) := by decide +kernel
theorem d_Pa_openBlock_46 : decode prog_8_method_13_code 46 = .ok (.getfield 12, 3) := by decide +kernel
theorem d_Pa_openBlock_49 : decode prog_8_method_13_code 49 = .ok (.dup, 1) := by decide +kernel
theorem d_Pa_openBlock_50 : decode prog_8_method_13_code 50 = .ok (.getfield 46, 3) := by decide +kernel
theorem d_Pa_openBlock_53 : decode prog_8_method_13_code 53 = .ok (.iconst 1, 1) := by decide +kernel
theorem d_Pa_openBlock_54 : decode prog_8_method_13_code 54 = .ok (.iadd, 1) := by decide +kernel
theorem d_Pa_openBlock_55 : decode prog_8_method_13_code 55 = .ok (.putfield 46, 3) := by decide +kernel
theorem d_Pa_openBlock_58 : decode prog_8_method_13_code 58 = .ok (.iconst 1, 1) := by decide +kernel
theorem d_Pa_openBlock_59 : decode prog_8_method_13_code 59 = .ok (.ireturn, 1) := by decide +kernel
theorem d_Pa_isLetter_0 : decode prog_8_method_16_code 0 = .ok (.iload_n 0, 1) := by decide +kernel
theorem d_Pa_isLetter_1 : decode prog_8_method_16_code 1 = .ok (.bipush 97, 2) := by decide +kernel
theorem d_Pa_isLetter_3 : decode prog_8_method_16_code 3 = .ok (.if_icmp .lt 13, 3) := by decide +kernel
theorem d_Pa_isLetter_6 : decode prog_8_method_16_code 6 = .ok (.iload_n 0, 1) := by decide +kernel
theorem d_Pa_isLetter_7 : decode prog_8_method_16_code 7 = .ok (.bipush 122, 2) := by decide +kernel
theorem d_Pa_isLetter_9 : decode prog_8_method_16_code 9 = .ok (.if_icmp .gt 7, 3) := by decide +kernel
theorem d_Pa_isLetter_12 : decode prog_8_method_16_code 12 = .ok (.iconst 1, 1) := by decide +kernel
theorem d_Pa_isLetter_13 : decode prog_8_method_16_code 13 = .ok (.goto 4, 3) := by decide +kernel
theorem d_Pa_isLetter_16 : decode prog_8_method_16_code 16 = .ok (.iconst 0, 1) := by decide +kernel
theorem d_Pa_isLetter_17 : decode prog_8_method_16_code 17 = .ok (.ireturn, 1) := by decide +kernel
theorem d_Pa_placeLabel_0 : decode prog_8_method_14_code 0 = .ok (.aload_n 0, 1) := by decide +kernel
theorem d_Pa_placeLabel_1 : decode prog_8_method_14_code 1 = .ok (.getfield 114, 3) := by decide +kernel
theorem d_Pa_placeLabel_4 : decode prog_8_method_14_code 4 = .ok (.getfield 132, 3) := by decide +kernel
theorem d_Pa_placeLabel_7 : decode prog_8_method_14_code 7 = .ok (.ifCond .gt 13, 3) := by decide +kernel
theorem d_Pa_placeLabel_10 : decode prog_8_method_14_code 10 = .ok (.aload_n 0, 1) := by decide +kernel
theorem d_Pa_placeLabel_11 : decode prog_8_method_14_code 11 = .ok (.getfield 114, 3) := by decide +kernel
theorem d_Pa_placeLabel_14 : decode prog_8_method_14_code 14 = .ok (.getfield 141, 3) := by decide +kernel
theorem d_Pa_placeLabel_17 : decode prog_8_method_14_code 17 = .ok (.ifCond .eq 12, 3) := by decide +kernel
theorem d_Pa_placeLabel_20 : decode prog_8_method_14_code 20 = .ok (.aload_n 0, 1) := by decide +kernel
theorem d_Pa_placeLabel_21 : decode prog_8_method_14_code 21 = .ok (.getfield 12, 3) := by decide +kernel
theorem d_Pa_placeLabel_24 : decode prog_8_method_14_code 24 = .ok (.iconst 0, 1) := by decide +kernel
theorem d_Pa_placeLabel_25 : decode prog_8_method_14_code 25 = .ok (.invokevirtual 68, 3) := by decide +kernel
theorem d_Pa_placeLabel_28 : decode prog_8_method_14_code 28 = .ok (.ireturn, 1) := by decide +kernel
theorem d_Pa_placeLabel_29 : decode prog_8_method_14_code 29 = .ok (.aload_n 0, 1) := by decide +kernel
theorem d_Pa_placeLabel_30 : decode prog_8_method_14_code 30 = .ok (.getfield 12, 3) := by decide +kernel
theorem d_Pa_placeLabel_33 : decode prog_8_method_14_code 33 = .ok (.dup, 1) := by decide +kernel
theorem d_Pa_placeLabel_34 : decode prog_8_method_14_code 34 = .ok (.getfield 46, 3) := by decide +kernel
theorem d_Pa_placeLabel_37 : decode prog_8_method_14_code 37 = .ok (.iconst 1, 1) := by decide +kernel
theorem d_Pa_placeLabel_38 : decode prog_8_method_14_code 38 = .ok (.iadd, 1) := by decide +kernel
theorem d_Pa_placeLabel_39 : decode prog_8_method_14_code 39 = .ok (.putfield 46, 3) := by decide +kernel
theorem d_Pa_placeLabel_42 : decode prog_8_method_14_code 42 = .ok (.aload_n 0, 1) := by decide +kernel
theorem d_Pa_placeLabel_43 : decode prog_8_method_14_code 43 = .ok (.getfield 12, 3) := by decide +kernel
theorem d_Pa_placeLabel_46 : decode prog_8_method_14_code 46 = .ok (.iconst 0, 1) := by decide +kernel
theorem d_Pa_placeLabel_47 : decode prog_8_method_14_code 47 = .ok (.invokevirtual 42, 3) := by decide +kernel
theorem d_Pa_placeLabel_50 : decode prog_8_method_14_code 50 = .ok (.istore_n 1, 1) := by decide +kernel
theorem d_Pa_placeLabel_51 : decode prog_8_method_14_code 51 = .ok (.iload_n 1, 1) := by decide +kernel
theorem d_Pa_placeLabel_52 : decode prog_8_method_14_code 52 = .ok (.invokestatic 184, 3) := by decide +kernel
theorem d_Pa_placeLabel_55 : decode prog_8_method_14_code 55 = .ok (.ifCond .eq 16, 3) := by decide +kernel
theorem d_Pa_placeLabel_58 : decode prog_8_method_14_code 58 = .ok (.aload_n 0, 1) := by decide +kernel
theorem d_Pa_placeLabel_59 : decode prog_8_method_14_code 59 = .ok (.getfield 31, 3) := by decide +kernel
theorem d_Pa_placeLabel_62 : decode prog_8_method_14_code 62 = .ok (.iload_n 1, 1) := by decide +kernel
theorem d_Pa_placeLabel_63 : decode prog_8_method_14_code 63 = .ok (.bipush 97, 2) := by decide +kernel
theorem d_Pa_placeLabel_65 : decode prog_8_method_14_code 65 = .ok (.isub, 1) := by decide +kernel
theorem d_Pa_placeLabel_66 : decode prog_8_method_14_code 66 = .ok (.iaload, 1) := by decide +kernel
theorem d_Pa_placeLabel_67 : decode prog_8_method_14_code 67 = .ok (.iconst (-1), 1) := by decide +kernel
theorem d_Pa_placeLabel_68 : decode prog_8_method_14_code 68 = .ok (.if_icmp .eq 12, 3) := by decide +kernel
theorem d_Pa_placeLabel_71 : decode prog_8_method_14_code 71 = .ok (.aload_n 0, 1) := by decide +kernel
theorem d_Pa_placeLabel_72 : decode prog_8_method_14_code 72 = .ok (.getfield 12, 3) := by decide +kernel
theorem d_Pa_placeLabel_75 : decode prog_8_method_14_code 75 = .ok (.iconst 0, 1) := by decide +kernel
theorem d_Pa_placeLabel_76 : decode prog_8_method_14_code 76 = .ok (.invokevirtual 68, 3) := by decide +kernel
theorem d_Pa_placeLabel_79 : decode prog_8_method_14_code 79 = .ok (.ireturn, 1) := by decide +kernel
theorem d_Pa_placeLabel_80 : decode prog_8_method_14_code 80 = .ok (.aload_n 0, 1) := by decide +kernel
theorem d_Pa_placeLabel_81 : decode prog_8_method_14_code 81 = .ok (.getfield 31, 3) := by decide +kernel
theorem d_Pa_placeLabel_84 : decode prog_8_method_14_code 84 = .ok (.iload_n 1, 1) := by decide +kernel
theorem d_Pa_placeLabel_85 : decode prog_8_method_14_code 85 = .ok (.bipush 97, 2) := by decide +kernel
theorem d_Pa_placeLabel_87 : decode prog_8_method_14_code 87 = .ok (.isub, 1) := by decide +kernel
theorem d_Pa_placeLabel_88 : decode prog_8_method_14_code 88 = .ok (.aload_n 0, 1) := by decide +kernel
theorem d_Pa_placeLabel_89 : decode prog_8_method_14_code 89 = .ok (.getfield 72, 3) := by decide +kernel
theorem d_Pa_placeLabel_92 : decode prog_8_method_14_code 92 = .ok (.getfield 103, 3) := by decide +kernel
theorem d_Pa_placeLabel_95 : decode prog_8_method_14_code 95 = .ok (.iastore, 1) := by decide +kernel
theorem d_Pa_placeLabel_96 : decode prog_8_method_14_code 96 = .ok (.aload_n 0, 1) := by decide +kernel
theorem d_Pa_placeLabel_97 : decode prog_8_method_14_code 97 = .ok (.getfield 12, 3) := by decide +kernel
theorem d_Pa_placeLabel_100 : decode prog_8_method_14_code 100 = .ok (.dup, 1) := by decide +kernel
theorem d_Pa_placeLabel_101 : decode prog_8_method_14_code 101 = .ok (.getfield 46, 3) := by decide +kernel
theorem d_Pa_placeLabel_104 : decode prog_8_method_14_code 104 = .ok (.iconst 1, 1) := by decide +kernel
theorem d_Pa_placeLabel_105 : decode prog_8_method_14_code 105 = .ok (.iadd, 1) := by decide +kernel
theorem d_Pa_placeLabel_106 : decode prog_8_method_14_code 106 = .ok (.putfield 46, 3) := by decide +kernel
theorem d_Pa_placeLabel_109 : decode prog_8_method_14_code 109 = .ok (.iconst 1, 1) := by decide +kernel
theorem d_Pa_placeLabel_110 : decode prog_8_method_14_code 110 = .ok (.ireturn, 1) := by decide +kernel
theorem d_Pa_endCommand_0 : decode prog_8_method_12_code 0 = .ok (.aload_n 0, 1) := by decide +kernel
theorem d_Pa_endCommand_1 : decode prog_8_method_12_code 1 = .ok (.getfield 12, 3) := by decide +kernel
theorem d_Pa_endCommand_4 : decode prog_8_method_12_code 4 = .ok (.iconst 0, 1) := by decide +kernel
theorem d_Pa_endCommand_5 : decode prog_8_method_12_code 5 = .ok (.invokevirtual 42, 3) := by decide +kernel
theorem d_Pa_endCommand_8 : decode prog_8_method_12_code 8 = .ok (.istore_n 1, 1) := by decide +kernel
theorem d_Pa_endCommand_9 : decode prog_8_method_12_code 9 = .ok (.iload_n 1, 1) := by decide +kernel
theorem d_Pa_endCommand_10 : decode prog_8_method_12_code 10 = .ok (.iconst (-1), 1) := by decide +kernel
theorem d_Pa_endCommand_11 : decode prog_8_method_12_code 11 = .ok (.if_icmp .eq 27, 3) := by decide +kernel
theorem d_Pa_endCommand_14 : decode prog_8_method_12_code 14 = .ok (.iload_n 1, 1) := by decide +kernel
theorem d_Pa_endCommand_15 : decode prog_8_method_12_code 15 = .ok (.bipush 32, 2) := by decide +kernel
theorem d_Pa_endCommand_17 : decode prog_8_method_12_code 17 = .ok (.if_icmp .eq 21, 3) := by decide +kernel
theorem d_Pa_endCommand_20 : decode prog_8_method_12_code 20 = .ok (.iload_n 1, 1) := by decide +kernel
theorem d_Pa_endCommand_21 : decode prog_8_method_12_code 21 = .ok (.bipush 10, 2) := by decide +kernel
theorem d_Pa_endCommand_23 : decode prog_8_method_12_code 23 = .ok (.if_icmp .eq 15, 3) := by decide +kernel
theorem d_Pa_endCommand_26 : decode prog_8_method_12_code 26 = .ok (.iload_n 1, 1) := by decide +kernel
theorem d_Pa_endCommand_27 : decode prog_8_method_12_code 27 = .ok (.bipush 59, 2) := by decide +kernel
theorem d_Pa_endCommand_29 : decode prog_8_method_12_code 29 = .ok (.if_icmp .eq 9, 3) := by decide +kernel
theorem d_Pa_endCommand_32 : decode prog_8_method_12_code 32 = .ok (.iload_n 1, 1) := by decide +kernel
theorem d_Pa_endCommand_33 : decode prog_8_method_12_code 33 = .ok (.bipush 125, 2) := by decide +kernel
theorem d_Pa_endCommand_35 : decode prog_8_method_12_code 35 = .ok (.if_icmp .ne 5, 3) := by decide +kernel
theorem d_Pa_endCommand_38 : decode prog_8_method_12_code 38 = .ok (.iconst 1, 1) := by decide +kernel
theorem d_Pa_endCommand_39 : decode prog_8_method_12_code 39 = .ok (.ireturn, 1) := by decide +kernel
theorem d_Pa_endCommand_40 : decode prog_8_method_12_code 40 = .ok (.aload_n 0, 1) := by decide +kernel
theorem d_Pa_endCommand_41 : decode prog_8_method_12_code 41 = .ok (.getfield 12, 3) := by decide +kernel
theorem d_Pa_endCommand_44 : decode prog_8_method_12_code 44 = .ok (.iconst 0, 1) := by decide +kernel
theorem d_Pa_endCommand_45 : decode prog_8_method_12_code 45 = .ok (.invokevirtual 68, 3) := by decide +kernel
theorem d_Pa_endCommand_48 : decode prog_8_method_12_code 48 = .ok (.ireturn, 1) := by decide +kernel
theorem d_Pa_readBranch_0 : decode prog_8_method_15_code 0 = .ok (.aload_n 0, 1) := by decide +kernel
theorem d_Pa_readBranch_1 : decode prog_8_method_15_code 1 = .ok (.getfield 12, 3) := by decide +kernel
theorem d_Pa_readBranch_4 : decode prog_8_method_15_code 4 = .ok (.dup, 1) := by decide +kernel
theorem d_Pa_readBranch_5 : decode prog_8_method_15_code 5 = .ok (.getfield 46, 3) := by decide +kernel
theorem d_Pa_readBranch_8 : decode prog_8_method_15_code 8 = .ok (.iconst 1, 1) := by decide +kernel
theorem d_Pa_readBranch_9 : decode prog_8_method_15_code 9 = .ok (.iadd, 1) := by decide +kernel
theorem d_Pa_readBranch_10 : decode prog_8_method_15_code 10 = .ok (.putfield 46, 3) := by decide +kernel
theorem d_Pa_readBranch_13 : decode prog_8_method_15_code 13 = .ok (.aload_n 0, 1) := by decide +kernel
theorem d_Pa_readBranch_14 : decode prog_8_method_15_code 14 = .ok (.getfield 12, 3) := by decide +kernel
theorem d_Pa_readBranch_17 : decode prog_8_method_15_code 17 = .ok (.iconst 0, 1) := by decide +kernel
theorem d_Pa_readBranch_18 : decode prog_8_method_15_code 18 = .ok (.invokevirtual 42, 3) := by decide +kernel
theorem d_Pa_readBranch_21 : decode prog_8_method_15_code 21 = .ok (.istore_n 1, 1) := by decide +kernel
theorem d_Pa_readBranch_22 : decode prog_8_method_15_code 22 = .ok (.iload_n 1, 1) := by decide +kernel
theorem d_Pa_readBranch_23 : decode prog_8_method_15_code 23 = .ok (.invokestatic 184, 3) := by decide +kernel
theorem d_Pa_readBranch_26 : decode prog_8_method_15_code 26 = .ok (.ifCond .eq 27, 3) := by decide +kernel
theorem d_Pa_readBranch_29 : decode prog_8_method_15_code 29 = .ok (.aload_n 0, 1) := by decide +kernel
theorem d_Pa_readBranch_30 : decode prog_8_method_15_code 30 = .ok (.getfield 114, 3) := by decide +kernel
theorem d_Pa_readBranch_33 : decode prog_8_method_15_code 33 = .ok (.iload_n 1, 1) := by decide +kernel
theorem d_Pa_readBranch_34 : decode prog_8_method_15_code 34 = .ok (.bipush 97, 2) := by decide +kernel
theorem d_Pa_readBranch_36 : decode prog_8_method_15_code 36 = .ok (.isub, 1) := by decide +kernel
theorem d_Pa_readBranch_37 : decode prog_8_method_15_code 37 = .ok (.putfield 187, 3) := by decide +kernel
theorem d_Pa_readBranch_40 : decode prog_8_method_15_code 40 = .ok (.aload_n 0, 1) := by decide +kernel
theorem d_Pa_readBranch_41 : decode prog_8_method_15_code 41 = .ok (.getfield 12, 3) := by decide +kernel
theorem d_Pa_readBranch_44 : decode prog_8_method_15_code 44 = .ok (.dup, 1) := by decide +kernel
theorem d_Pa_readBranch_45 : decode prog_8_method_15_code 45 = .ok (.getfield 46, 3) := by decide +kernel
theorem d_Pa_readBranch_48 : decode prog_8_method_15_code 48 = .ok (.iconst 1, 1) := by decide +kernel
theorem d_Pa_readBranch_49 : decode prog_8_method_15_code 49 = .ok (.iadd, 1) := by decide +kernel
theorem d_Pa_readBranch_50 : decode prog_8_method_15_code 50 = .ok (.putfield 46, 3) := by decide +kernel
theorem d_Pa_readBranch_53 : decode prog_8_method_15_code 53 = .ok (.iconst 1, 1) := by decide +kernel
theorem d_Pa_readBranch_54 : decode prog_8_method_15_code 54 = .ok (.ireturn, 1) := by decide +kernel
theorem d_Pa_mayFollowBackslash_0 : decode prog_8_method_20_code 0 = .ok (.iload_n 1, 1) := by decide +kernel
theorem d_Pa_mayFollowBackslash_1 : decode prog_8_method_20_code 1 = .ok (.bipush 49, 2) := by decide +kernel
theorem d_Pa_mayFollowBackslash_3 : decode prog_8_method_20_code 3 = .ok (.if_icmp .lt 24, 3) := by decide +kernel
theorem d_Pa_mayFollowBackslash_6 : decode prog_8_method_20_code 6 = .ok (.iload_n 1, 1) := by decide +kernel
theorem d_Pa_mayFollowBackslash_7 : decode prog_8_method_20_code 7 = .ok (.bipush 48, 2) := by decide +kernel
theorem d_Pa_mayFollowBackslash_9 : decode prog_8_method_20_code 9 = .ok (.aload_n 0, 1) := by decide +kernel
theorem d_Pa_mayFollowBackslash_10 : decode prog_8_method_20_code 10 = .ok (.getfield 114, 3) := by decide +kernel
theorem d_Pa_mayFollowBackslash_13 : decode prog_8_method_20_code 13 = .ok (.getfield 202, 3) := by decide +kernel
theorem d_Pa_mayFollowBackslash_16 : decode prog_8_method_20_code 16 = .ok (.getfield 212, 3) := by decide +kernel
theorem d_Pa_mayFollowBackslash_19 : decode prog_8_method_20_code 19 = .ok (.iadd, 1) := by decide +kernel
theorem d_Pa_mayFollowBackslash_20 : decode prog_8_method_20_code 20 = .ok (.if_icmp .gt 7, 3) := by decide +kernel
theorem d_Pa_mayFollowBackslash_23 : decode prog_8_method_20_code 23 = .ok (.iconst 1, 1) := by decide +kernel
theorem d_Pa_mayFollowBackslash_24 : decode prog_8_method_20_code 24 = .ok (.goto 4, 3) := by decide +kernel
theorem d_Pa_mayFollowBackslash_27 : decode prog_8_method_20_code 27 = .ok (.iconst 0, 1) := by decide +kernel
theorem d_Pa_mayFollowBackslash_28 : decode prog_8_method_20_code 28 = .ok (.istore_n 2, 1) := by decide +kernel
theorem d_Pa_mayFollowBackslash_29 : decode prog_8_method_20_code 29 = .ok (.iload_n 2, 1) := by decide +kernel
theorem d_Pa_mayFollowBackslash_30 : decode prog_8_method_20_code 30 = .ok (.ifCond .ne 27, 3) := by decide +kernel
theorem d_Pa_mayFollowBackslash_33 : decode prog_8_method_20_code 33 = .ok (.iload_n 1, 1) := by decide +kernel
theorem d_Pa_mayFollowBackslash_34 : decode prog_8_method_20_code 34 = .ok (.bipush 38, 2) := by decide +kernel
theorem d_Pa_mayFollowBackslash_36 : decode prog_8_method_20_code 36 = .ok (.if_icmp .eq 21, 3) := by decide +kernel
theorem d_Pa_mayFollowBackslash_39 : decode prog_8_method_20_code 39 = .ok (.iload_n 1, 1) := by decide +kernel
theorem d_Pa_mayFollowBackslash_40 : decode prog_8_method_20_code 40 = .ok (.bipush 47, 2) := by decide +kernel
theorem d_Pa_mayFollowBackslash_42 : decode prog_8_method_20_code 42 = .ok (.if_icmp .eq 15, 3) := by decide +kernel
theorem d_Pa_mayFollowBackslash_45 : decode prog_8_method_20_code 45 = .ok (.iload_n 1, 1) := by decide +kernel
theorem d_Pa_mayFollowBackslash_46 : decode prog_8_method_20_code 46 = .ok (.bipush 92, 2) := by decide +kernel
theorem d_Pa_mayFollowBackslash_48 : decode prog_8_method_20_code 48 = .ok (.if_icmp .eq 9, 3) := by decide +kernel
theorem d_Pa_mayFollowBackslash_51 : decode prog_8_method_20_code 51 = .ok (.iload_n 1, 1) := by decide +kernel
theorem d_Pa_mayFollowBackslash_52 : decode prog_8_method_20_code 52 = .ok (.bipush 110, 2) := by decide +kernel
theorem d_Pa_mayFollowBackslash_54 : decode prog_8_method_20_code 54 = .ok (.if_icmp .ne 7, 3) := by decide +kernel
theorem d_Pa_mayFollowBackslash_57 : decode prog_8_method_20_code 57 = .ok (.iconst 1, 1) := by decide +kernel
theorem d_Pa_mayFollowBackslash_58 : decode prog_8_method_20_code 58 = .ok (.goto 4, 3) := by decide +kernel
theorem d_Pa_mayFollowBackslash_61 : decode prog_8_method_20_code 61 = .ok (.iconst 0, 1) := by decide +kernel
theorem d_Pa_mayFollowBackslash_62 : decode prog_8_method_20_code 62 = .ok (.ireturn, 1) := by decide +kernel
theorem d_Pa_readReplacement_0 : decode prog_8_method_19_code 0 = .ok (.aload_n 0, 1) := by decide +kernel
theorem d_Pa_readReplacement_1 : decode prog_8_method_19_code 1 = .ok (.getfield 114, 3) := by decide +kernel
theorem d_Pa_readReplacement_4 : decode prog_8_method_19_code 4 = .ok (.aload_n 0, 1) := by decide +kernel
theorem d_Pa_readReplacement_5 : decode prog_8_method_19_code 5 = .ok (.getfield 12, 3) := by decide +kernel
theorem d_Pa_readReplacement_8 : decode prog_8_method_19_code 8 = .ok (.getfield 46, 3) := by decide +kernel
theorem d_Pa_readReplacement_11 : decode prog_8_method_19_code 11 = .ok (.putfield 193, 3) := by decide +kernel
theorem d_Pa_readReplacement_14 : decode prog_8_method_19_code 14 = .ok (.iconst 0, 1) := by decide +kernel
theorem d_Pa_readReplacement_15 : decode prog_8_method_19_code 15 = .ok (.istore_n 1, 1) := by decide +kernel
theorem d_Pa_readReplacement_16 : decode prog_8_method_19_code 16 = .ok (.iload_n 1, 1) := by decide +kernel
theorem d_Pa_readReplacement_17 : decode prog_8_method_19_code 17 = .ok (.sipush 240, 3) := by decide +kernel
theorem d_Pa_readReplacement_20 : decode prog_8_method_19_code 20 = .ok (.if_icmp .gt 128, 3) := by decide +kernel
theorem d_Pa_readReplacement_23 : decode prog_8_method_19_code 23 = .ok (.aload_n 0, 1) := by decide +kernel
theorem d_Pa_readReplacement_24 : decode prog_8_method_19_code 24 = .ok (.getfield 12, 3) := by decide +kernel
theorem d_Pa_readReplacement_27 : decode prog_8_method_19_code 27 = .ok (.iconst 0, 1) := by decide +kernel
theorem d_Pa_readReplacement_28 : decode prog_8_method_19_code 28 = .ok (.invokevirtual 42, 3) := by decide +kernel
theorem d_Pa_readReplacement_31 : decode prog_8_method_19_code 31 = .ok (.bipush 47, 2) := by decide +kernel
theorem d_Pa_readReplacement_33 : decode prog_8_method_19_code 33 = .ok (.if_icmp .eq 115, 3) := by decide +kernel
theorem d_Pa_readReplacement_36 : decode prog_8_method_19_code 36 = .ok (.aload_n 0, 1) := by decide +kernel
theorem d_Pa_readReplacement_37 : decode prog_8_method_19_code 37 = .ok (.getfield 12, 3) := by decide +kernel
theorem d_Pa_readReplacement_40 : decode prog_8_method_19_code 40 = .ok (.iconst 0, 1) := by decide +kernel
theorem d_Pa_readReplacement_41 : decode prog_8_method_19_code 41 = .ok (.invokevirtual 42, 3) := by decide +kernel
theorem d_Pa_readReplacement_44 : decode prog_8_method_19_code 44 = .ok (.istore_n 2, 1) := by decide +kernel
theorem d_Pa_readReplacement_45 : decode prog_8_method_19_code 45 = .ok (.iload_n 2, 1) := by decide +kernel
theorem d_Pa_readReplacement_46 : decode prog_8_method_19_code 46 = .ok (.iconst (-1), 1) := by decide +kernel
theorem d_Pa_readReplacement_47 : decode prog_8_method_19_code 47 = .ok (.if_icmp .eq 9, 3) := by decide +kernel
theorem d_Pa_readReplacement_50 : decode prog_8_method_19_code 50 = .ok (.iload_n 2, 1) := by decide +kernel
theorem d_Pa_readReplacement_51 : decode prog_8_method_19_code 51 = .ok (.bipush 10, 2) := by decide +kernel
theorem d_Pa_readReplacement_53 : decode prog_8_method_19_code 53 = .ok (.if_icmp .ne 12, 3) := by decide +kernel
theorem d_Pa_readReplacement_56 : decode prog_8_method_19_code 56 = .ok (.aload_n 0, 1) := by decide +kernel
theorem d_Pa_readReplacement_57 : decode prog_8_method_19_code 57 = .ok (.getfield 12, 3) := by decide +kernel
theorem d_Pa_readReplacement_60 : decode prog_8_method_19_code 60 = .ok (.iconst 0, 1) := by decide +kernel
theorem d_Pa_readReplacement_61 : decode prog_8_method_19_code 61 = .ok (.invokevirtual 68, 3) := by decide +kernel
theorem d_Pa_readReplacement_64 : decode prog_8_method_19_code 64 = .ok (.ireturn, 1) := by decide +kernel
theorem d_Pa_readReplacement_65 : decode prog_8_method_19_code 65 = .ok (.iload_n 2, 1) := by decide +kernel
theorem d_Pa_readReplacement_66 : decode prog_8_method_19_code 66 = .ok (.bipush 92, 2) := by decide +kernel
theorem d_Pa_readReplacement_68 : decode prog_8_method_19_code 68 = .ok (.if_icmp .ne 61, 3) := by decide +kernel
theorem d_Pa_readReplacement_71 : decode prog_8_method_19_code 71 = .ok (.aload_n 0, 1) := by decide +kernel
theorem d_Pa_readReplacement_72 : decode prog_8_method_19_code 72 = .ok (.getfield 12, 3) := by decide +kernel
theorem d_Pa_readReplacement_75 : decode prog_8_method_19_code 75 = .ok (.iconst 1, 1) := by decide +kernel
theorem d_Pa_readReplacement_76 : decode prog_8_method_19_code 76 = .ok (.invokevirtual 42, 3) := by decide +kernel
theorem d_Pa_readReplacement_79 : decode prog_8_method_19_code 79 = .ok (.iconst (-1), 1) := by decide +kernel
theorem d_Pa_readReplacement_80 : decode prog_8_method_19_code 80 = .ok (.if_icmp .ne 12, 3) := by decide +kernel
theorem d_Pa_readReplacement_83 : decode prog_8_method_19_code 83 = .ok (.aload_n 0, 1) := by decide +kernel
theorem d_Pa_readReplacement_84 : decode prog_8_method_19_code 84 = .ok (.getfield 12, 3) := by decide +kernel
theorem d_Pa_readReplacement_87 : decode prog_8_method_19_code 87 = .ok (.iconst 1, 1) := by decide +kernel
theorem d_Pa_readReplacement_88 : decode prog_8_method_19_code 88 = .ok (.invokevirtual 68, 3) := by decide +kernel
theorem d_Pa_readReplacement_91 : decode prog_8_method_19_code 91 = .ok (.ireturn, 1) := by decide +kernel
theorem d_Pa_readReplacement_92 : decode prog_8_method_19_code 92 = .ok (.aload_n 0, 1) := by decide +kernel
theorem d_Pa_readReplacement_93 : decode prog_8_method_19_code 93 = .ok (.aload_n 0, 1) := by decide +kernel
theorem d_Pa_readReplacement_94 : decode prog_8_method_19_code 94 = .ok (.getfield 12, 3) := by decide +kernel
theorem d_Pa_readReplacement_97 : decode prog_8_method_19_code 97 = .ok (.iconst 1, 1) := by decide +kernel
theorem d_Pa_readReplacement_98 : decode prog_8_method_19_code 98 = .ok (.invokevirtual 42, 3) := by decide +kernel
theorem d_Pa_readReplacement_101 : decode prog_8_method_19_code 101 = .ok (.invokevirtual 209, 3) := by decide +kernel
theorem d_Pa_readReplacement_104 : decode prog_8_method_19_code 104 = .ok (.ifCond .ne 12, 3) := by decide +kernel
theorem d_Pa_readReplacement_107 : decode prog_8_method_19_code 107 = .ok (.aload_n 0, 1) := by decide +kernel
theorem d_Pa_readReplacement_108 : decode prog_8_method_19_code 108 = .ok (.getfield 12, 3) := by decide +kernel
theorem d_Pa_readReplacement_111 : decode prog_8_method_19_code 111 = .ok (.iconst 0, 1) := by decide +kernel
theorem d_Pa_readReplacement_112 : decode prog_8_method_19_code 112 = .ok (.invokevirtual 68, 3) := by decide +kernel
theorem d_Pa_readReplacement_115 : decode prog_8_method_19_code 115 = .ok (.ireturn, 1) := by decide +kernel
theorem d_Pa_readReplacement_116 : decode prog_8_method_19_code 116 = .ok (.aload_n 0, 1) := by decide +kernel
theorem d_Pa_readReplacement_117 : decode prog_8_method_19_code 117 = .ok (.getfield 12, 3) := by decide +kernel
theorem d_Pa_readReplacement_120 : decode prog_8_method_19_code 120 = .ok (.dup, 1) := by decide +kernel
theorem d_Pa_readReplacement_121 : decode prog_8_method_19_code 121 = .ok (.getfield 46, 3) := by decide +kernel
theorem d_Pa_readReplacement_124 : decode prog_8_method_19_code 124 = .ok (.iconst 1, 1) := by decide +kernel
theorem d_Pa_readReplacement_125 : decode prog_8_method_19_code 125 = .ok (.iadd, 1) := by decide +kernel
theorem d_Pa_readReplacement_126 : decode prog_8_method_19_code 126 = .ok (.putfield 46, 3) := by decide +kernel
theorem d_Pa_readReplacement_129 : decode prog_8_method_19_code 129 = .ok (.aload_n 0, 1) := by decide +kernel
theorem d_Pa_readReplacement_130 : decode prog_8_method_19_code 130 = .ok (.getfield 12, 3) := by decide +kernel
theorem d_Pa_readReplacement_133 : decode prog_8_method_19_code 133 = .ok (.dup, 1) := by decide +kernel
theorem d_Pa_readReplacement_134 : decode prog_8_method_19_code 134 = .ok (.getfield 46, 3) := by decide +kernel
theorem d_Pa_readReplacement_137 : decode prog_8_method_19_code 137 = .ok (.iconst 1, 1) := by decide +kernel
theorem d_Pa_readReplacement_138 : decode prog_8_method_19_code 138 = .ok (.iadd, 1) := by decide +kernel
theorem d_Pa_readReplacement_139 : decode prog_8_method_19_code 139 = .ok (.putfield 46, 3) := by decide +kernel
theorem d_Pa_readReplacement_142 : decode prog_8_method_19_code 142 = .ok (.iinc 1 1, 3) := by decide +kernel
theorem d_Pa_readReplacement_145 : decode prog_8_method_19_code 145 = .ok (.goto (-129), 3) := by decide +kernel
theorem d_Pa_readReplacement_148 : decode prog_8_method_19_code 148 = .ok (.aload_n 0, 1) := by decide +kernel
theorem d_Pa_readReplacement_149 : decode prog_8_method_19_code 149 = .ok (.getfield 114, 3) := by decide +kernel
theorem d_Pa_readReplacement_152 : decode prog_8_method_19_code 152 = .ok (.aload_n 0, 1) := by decide +kernel
theorem d_Pa_readReplacement_153 : decode prog_8_method_19_code 153 = .ok (.getfield 12, 3) := by decide +kernel
theorem d_Pa_readReplacement_156 : decode prog_8_method_19_code 156 = .ok (.getfield 46, 3) := by decide +kernel
theorem d_Pa_readReplacement_159 : decode prog_8_method_19_code 159 = .ok (.putfield 199, 3) := by decide +kernel
theorem d_Pa_readReplacement_162 : decode prog_8_method_19_code 162 = .ok (.aload_n 0, 1) := by decide +kernel
theorem d_Pa_readReplacement_163 : decode prog_8_method_19_code 163 = .ok (.getfield 12, 3) := by decide +kernel
theorem d_Pa_readReplacement_166 : decode prog_8_method_19_code 166 = .ok (.bipush 47, 2) := by decide +kernel
theorem d_Pa_readReplacement_168 : decode prog_8_method_19_code 168 = .ok (.invokevirtual 190, 3) := by decide +kernel
theorem d_Pa_readReplacement_171 : decode prog_8_method_19_code 171 = .ok (.ireturn, 1) := by decide +kernel
theorem d_Pa_readFlags_0 : decode prog_8_method_21_code 0 = .ok (.iconst 0, 1) := by decide +kernel
theorem d_Pa_readFlags_1 : decode prog_8_method_21_code 1 = .ok (.istore_n 1, 1) := by decide +kernel
theorem d_Pa_readFlags_2 : decode prog_8_method_21_code 2 = .ok (.iload_n 1, 1) := by decide +kernel
theorem d_Pa_readFlags_3 : decode prog_8_method_21_code 3 = .ok (.iconst 3, 1) := by decide +kernel
theorem d_Pa_readFlags_4 : decode prog_8_method_21_code 4 = .ok (.if_icmp .ge 123, 3) := by decide +kernel
theorem d_Pa_readFlags_7 : decode prog_8_method_21_code 7 = .ok (.aload_n 0, 1) := by decide +kernel
theorem d_Pa_readFlags_8 : decode prog_8_method_21_code 8 = .ok (.getfield 12, 3) := by decide +kernel
theorem d_Pa_readFlags_11 : decode prog_8_method_21_code 11 = .ok (.iconst 0, 1) := by decide +kernel
theorem d_Pa_readFlags_12 : decode prog_8_method_21_code 12 = .ok (.invokevirtual 42, 3) := by decide +kernel
theorem d_Pa_readFlags_15 : decode prog_8_method_21_code 15 = .ok (.istore_n 2, 1) := by decide +kernel
theorem d_Pa_readFlags_16 : decode prog_8_method_21_code 16 = .ok (.iload_n 2, 1) := by decide +kernel
theorem d_Pa_readFlags_17 : decode prog_8_method_21_code 17 = .ok (.bipush 103, 2) := by decide +kernel
theorem d_Pa_readFlags_19 : decode prog_8_method_21_code 19 = .ok (.if_icmp .ne 24, 3) := by decide +kernel
theorem d_Pa_readFlags_22 : decode prog_8_method_21_code 22 = .ok (.aload_n 0, 1) := by decide +kernel
theorem d_Pa_readFlags_23 : decode prog_8_method_21_code 23 = .ok (.getfield 114, 3) := by decide +kernel
theorem d_Pa_readFlags_26 : decode prog_8_method_21_code 26 = .ok (.getfield 217, 3) := by decide +kernel
theorem d_Pa_readFlags_29 : decode prog_8_method_21_code 29 = .ok (.ifCond .ne 14, 3) := by decide +kernel
theorem d_Pa_readFlags_32 : decode prog_8_method_21_code 32 = .ok (.aload_n 0, 1) := by decide +kernel
theorem d_Pa_readFlags_33 : decode prog_8_method_21_code 33 = .ok (.getfield 114, 3) := by decide +kernel
theorem d_Pa_readFlags_36 : decode prog_8_method_21_code 36 = .ok (.iconst 1, 1) := by decide +kernel
theorem d_Pa_readFlags_37 : decode prog_8_method_21_code 37 = .ok (.putfield 217, 3) := by decide +kernel
theorem d_Pa_readFlags_40 : decode prog_8_method_21_code 40 = .ok (.goto 68, 3) := by decide +kernel
theorem d_Pa_readFlags_43 : decode prog_8_method_21_code 43 = .ok (.iload_n 2, 1) := by decide +kernel
theorem d_Pa_readFlags_44 : decode prog_8_method_21_code 44 = .ok (.bipush 112, 2) := by decide +kernel
theorem d_Pa_readFlags_46 : decode prog_8_method_21_code 46 = .ok (.if_icmp .ne 24, 3) := by decide +kernel
theorem d_Pa_readFlags_49 : decode prog_8_method_21_code 49 = .ok (.aload_n 0, 1) := by decide +kernel
theorem d_Pa_readFlags_50 : decode prog_8_method_21_code 50 = .ok (.getfield 114, 3) := by decide +kernel
theorem d_Pa_readFlags_53 : decode prog_8_method_21_code 53 = .ok (.getfield 220, 3) := by decide +kernel
theorem d_Pa_readFlags_56 : decode prog_8_method_21_code 56 = .ok (.ifCond .ne 14, 3) := by decide +kernel
theorem d_Pa_readFlags_59 : decode prog_8_method_21_code 59 = .ok (.aload_n 0, 1) := by decide +kernel
theorem d_Pa_readFlags_60 : decode prog_8_method_21_code 60 = .ok (.getfield 114, 3) := by decide +kernel
theorem d_Pa_readFlags_63 : decode prog_8_method_21_code 63 = .ok (.iconst 1, 1) := by decide +kernel
theorem d_Pa_readFlags_64 : decode prog_8_method_21_code 64 = .ok (.putfield 220, 3) := by decide +kernel
theorem d_Pa_readFlags_67 : decode prog_8_method_21_code 67 = .ok (.goto 41, 3) := by decide +kernel
theorem d_Pa_readFlags_70 : decode prog_8_method_21_code 70 = .ok (.iload_n 2, 1) := by decide +kernel
theorem d_Pa_readFlags_71 : decode prog_8_method_21_code 71 = .ok (.bipush 49, 2) := by decide +kernel
theorem d_Pa_readFlags_73 : decode prog_8_method_21_code 73 = .ok (.if_icmp .lt 33, 3) := by decide +kernel
theorem d_Pa_readFlags_76 : decode prog_8_method_21_code 76 = .ok (.iload_n 2, 1) := by decide +kernel
theorem d_Pa_readFlags_77 : decode prog_8_method_21_code 77 = .ok (.bipush 57, 2) := by decide +kernel
theorem d_Pa_readFlags_79 : decode prog_8_method_21_code 79 = .ok (.if_icmp .gt 27, 3) := by decide +kernel
theorem d_Pa_readFlags_82 : decode prog_8_method_21_code 82 = .ok (.aload_n 0, 1) := by decide +kernel
theorem d_Pa_readFlags_83 : decode prog_8_method_21_code 83 = .ok (.getfield 114, 3) := by decide +kernel
theorem d_Pa_readFlags_86 : decode prog_8_method_21_code 86 = .ok (.getfield 223, 3) := by decide +kernel
theorem d_Pa_readFlags_89 : decode prog_8_method_21_code 89 = .ok (.ifCond .ne 17, 3) := by decide +kernel
theorem d_Pa_readFlags_92 : decode prog_8_method_21_code 92 = .ok (.aload_n 0, 1) := by decide +kernel
theorem d_Pa_readFlags_93 : decode prog_8_method_21_code 93 = .ok (.getfield 114, 3) := by decide +kernel
theorem d_Pa_readFlags_96 : decode prog_8_method_21_code 96 = .ok (.iload_n 2, 1) := by decide +kernel
theorem d_Pa_readFlags_97 : decode prog_8_method_21_code 97 = .ok (.bipush 48, 2) := by decide +kernel
theorem d_Pa_readFlags_99 : decode prog_8_method_21_code 99 = .ok (.isub, 1) := by decide +kernel
theorem d_Pa_readFlags_100 : decode prog_8_method_21_code 100 = .ok (.putfield 223, 3) := by decide +kernel
theorem d_Pa_readFlags_103 : decode prog_8_method_21_code 103 = .ok (.goto 5, 3) := by decide +kernel
theorem d_Pa_readFlags_106 : decode prog_8_method_21_code 106 = .ok (.iconst 1, 1) := by decide +kernel
theorem d_Pa_readFlags_107 : decode prog_8_method_21_code 107 = .ok (.ireturn, 1) := by decide +kernel
theorem d_Pa_readFlags_108 : decode prog_8_method_21_code 108 = .ok (.aload_n 0, 1) := by decide +kernel
theorem d_Pa_readFlags_109 : decode prog_8_method_21_code 109 = .ok (.getfield 12, 3) := by decide +kernel
theorem d_Pa_readFlags_112 : decode prog_8_method_21_code 112 = .ok (.dup, 1) := by decide +kernel
theorem d_Pa_readFlags_113 : decode prog_8_method_21_code 113 = .ok (.getfield 46, 3) := by decide +kernel
theorem d_Pa_readFlags_116 : decode prog_8_method_21_code 116 = .ok (.iconst 1, 1) := by decide +kernel
theorem d_Pa_readFlags_117 : decode prog_8_method_21_code 117 = .ok (.iadd, 1) := by decide +kernel
theorem d_Pa_readFlags_118 : decode prog_8_method_21_code 118 = .ok (.putfield 46, 3) := by decide +kernel
theorem d_Pa_readFlags_121 : decode prog_8_method_21_code 121 = .ok (.iinc 1 1, 3) := by decide +kernel
theorem d_Pa_readFlags_124 : decode prog_8_method_21_code 124 = .ok (.goto (-122), 3) := by decide +kernel
theorem d_Pa_readFlags_127 : decode prog_8_method_21_code 127 = .ok (.iconst 1, 1) := by decide +kernel
theorem d_Pa_readFlags_128 : decode prog_8_method_21_code 128 = .ok (.ireturn, 1) := by decide +kernel
theorem d_Pa_readSubstitution_0 : decode prog_8_method_18_code 0 = .ok (.aload_n 0, 1) := by decide +kernel
theorem d_Pa_readSubstitution_1 : decode prog_8_method_18_code 1 = .ok (.getfield 12, 3) := by decide +kernel
theorem d_Pa_readSubstitution_4 : decode prog_8_method_18_code 4 = .ok (.dup, 1) := by decide +kernel
theorem d_Pa_readSubstitution_5 : decode prog_8_method_18_code 5 = .ok (.getfield 46, 3) := by decide +kernel
theorem d_Pa_readSubstitution_8 : decode prog_8_method_18_code 8 = .ok (.iconst 1, 1) := by decide +kernel
theorem d_Pa_readSubstitution_9 : decode prog_8_method_18_code 9 = .ok (.iadd, 1) := by decide +kernel
theorem d_Pa_readSubstitution_10 : decode prog_8_method_18_code 10 = .ok (.putfield 46, 3) := by decide +kernel
theorem d_Pa_readSubstitution_13 : decode prog_8_method_18_code 13 = .ok (.aload_n 0, 1) := by decide +kernel
theorem d_Pa_readSubstitution_14 : decode prog_8_method_18_code 14 = .ok (.getfield 12, 3) := by decide +kernel
theorem d_Pa_readSubstitution_17 : decode prog_8_method_18_code 17 = .ok (.bipush 47, 2) := by decide +kernel
theorem d_Pa_readSubstitution_19 : decode prog_8_method_18_code 19 = .ok (.invokevirtual 190, 3) := by decide +kernel
theorem d_Pa_readSubstitution_22 : decode prog_8_method_18_code 22 = .ok (.ifCond .eq 45, 3) := by decide +kernel
theorem d_Pa_readSubstitution_25 : decode prog_8_method_18_code 25 = .ok (.aload_n 0, 1) := by decide +kernel
theorem d_Pa_readSubstitution_26 : decode prog_8_method_18_code 26 = .ok (.getfield 23, 3) := by decide +kernel
theorem d_Pa_readSubstitution_29 : decode prog_8_method_18_code 29 = .ok (.aload_n 0, 1) := by decide +kernel
theorem d_Pa_readSubstitution_30 : decode prog_8_method_18_code 30 = .ok (.getfield 114, 3) := by decide +kernel
theorem d_Pa_readSubstitution_33 : decode prog_8_method_18_code 33 = .ok (.getfield 202, 3) := by decide +kernel
theorem d_Pa_readSubstitution_36 : decode prog_8_method_18_code 36 = .ok (.aload_n 0, 1) := by decide +kernel
theorem d_Pa_readSubstitution_37 : decode prog_8_method_18_code 37 = .ok (.getfield 72, 3) := by decide +kernel
theorem d_Pa_readSubstitution_40 : decode prog_8_method_18_code 40 = .ok (.getfield 94, 3) := by decide +kernel
theorem d_Pa_readSubstitution_43 : decode prog_8_method_18_code 43 = .ok (.invokevirtual 154, 3) := by decide +kernel
theorem d_Pa_readSubstitution_46 : decode prog_8_method_18_code 46 = .ok (.ifCond .eq 21, 3) := by decide +kernel
theorem d_Pa_readSubstitution_49 : decode prog_8_method_18_code 49 = .ok (.aload_n 0, 1) := by decide +kernel
theorem d_Pa_readSubstitution_50 : decode prog_8_method_18_code 50 = .ok (.invokevirtual 203, 3) := by decide +kernel
theorem d_Pa_readSubstitution_53 : decode prog_8_method_18_code 53 = .ok (.ifCond .eq 14, 3) := by decide +kernel
theorem d_Pa_readSubstitution_56 : decode prog_8_method_18_code 56 = .ok (.aload_n 0, 1) := by decide +kernel
theorem d_Pa_readSubstitution_57 : decode prog_8_method_18_code 57 = .ok (.invokevirtual 206, 3) := by decide +kernel
theorem d_Pa_readSubstitution_60 : decode prog_8_method_18_code 60 = .ok (.ifCond .eq 7, 3) := by decide +kernel
theorem d_Pa_readSubstitution_63 : decode prog_8_method_18_code 63 = .ok (.iconst 1, 1) := by decide +kernel
theorem d_Pa_readSubstitution_64 : decode prog_8_method_18_code 64 = .ok (.goto 4, 3) := by decide +kernel
theorem d_Pa_readSubstitution_67 : decode prog_8_method_18_code 67 = .ok (.iconst 0, 1) := by decide +kernel
theorem d_Pa_readSubstitution_68 : decode prog_8_method_18_code 68 = .ok (.ireturn, 1) := by decide +kernel
theorem d_Pa_isExchangeable_0 : decode prog_8_method_23_code 0 = .ok (.iload_n 0, 1) := by decide +kernel
theorem d_Pa_isExchangeable_1 : decode prog_8_method_23_code 1 = .ok (.iconst (-1), 1) := by decide +kernel
theorem d_Pa_isExchangeable_2 : decode prog_8_method_23_code 2 = .ok (.if_icmp .eq 19, 3) := by decide +kernel
theorem d_Pa_isExchangeable_5 : decode prog_8_method_23_code 5 = .ok (.iload_n 0, 1) := by decide +kernel
theorem d_Pa_isExchangeable_6 : decode prog_8_method_23_code 6 = .ok (.bipush 10, 2) := by decide +kernel
theorem d_Pa_isExchangeable_8 : decode prog_8_method_23_code 8 = .ok (.if_icmp .eq 13, 3) := by decide +kernel
theorem d_Pa_isExchangeable_11 : decode prog_8_method_23_code 11 = .ok (.iload_n 0, 1) := by decide +kernel
theorem d_Pa_isExchangeable_12 : decode prog_8_method_23_code 12 = .ok (.bipush 92, 2) := by decide +kernel
theorem d_Pa_isExchangeable_14 : decode prog_8_method_23_code 14 = .ok (.if_icmp .eq 7, 3) := by decide +kernel
theorem d_Pa_isExchangeable_17 : decode prog_8_method_23_code 17 = .ok (.iconst 1, 1) := by decide +kernel
theorem d_Pa_isExchangeable_18 : decode prog_8_method_23_code 18 = .ok (.goto 4, 3) := by decide +kernel
theorem d_Pa_isExchangeable_21 : decode prog_8_method_23_code 21 = .ok (.iconst 0, 1) := by decide +kernel
theorem d_Pa_isExchangeable_22 : decode prog_8_method_23_code 22 = .ok (.ireturn, 1) := by decide +kernel
theorem d_Pa_wasExchanged_0 : decode prog_8_method_24_code 0 = .ok (.aload_n 0, 1) := by decide +kernel
theorem d_Pa_wasExchanged_1 : decode prog_8_method_24_code 1 = .ok (.getfield 114, 3) := by decide +kernel
theorem d_Pa_wasExchanged_4 : decode prog_8_method_24_code 4 = .ok (.getfield 193, 3) := by decide +kernel
theorem d_Pa_wasExchanged_7 : decode prog_8_method_24_code 7 = .ok (.istore_n 2, 1) := by decide +kernel
theorem d_Pa_wasExchanged_8 : decode prog_8_method_24_code 8 = .ok (.iload_n 2, 1) := by decide +kernel
theorem d_Pa_wasExchanged_9 : decode prog_8_method_24_code 9 = .ok (.aload_n 0, 1) := by decide +kernel
theorem d_Pa_wasExchanged_10 : decode prog_8_method_24_code 10 = .ok (.getfield 12, 3) := by decide +kernel
theorem d_Pa_wasExchanged_13 : decode prog_8_method_24_code 13 = .ok (.getfield 46, 3) := by decide +kernel
theorem d_Pa_wasExchanged_16 : decode prog_8_method_24_code 16 = .ok (.if_icmp .ge 26, 3) := by decide +kernel
theorem d_Pa_wasExchanged_19 : decode prog_8_method_24_code 19 = .ok (.aload_n 0, 1) := by decide +kernel
theorem d_Pa_wasExchanged_20 : decode prog_8_method_24_code 20 = .ok (.getfield 72, 3) := by decide +kernel
theorem d_Pa_wasExchanged_23 : decode prog_8_method_24_code 23 = .ok (.getfield 76, 3) := by decide +kernel
theorem d_Pa_wasExchanged_26 : decode prog_8_method_24_code 26 = .ok (.iload_n 2, 1) := by decide +kernel
theorem d_Pa_wasExchanged_27 : decode prog_8_method_24_code 27 = .ok (.invokevirtual 235, 3) := by decide +kernel
theorem d_Pa_wasExchanged_30 : decode prog_8_method_24_code 30 = .ok (.iload_n 1, 1) := by decide +kernel
theorem d_Pa_wasExchanged_31 : decode prog_8_method_24_code 31 = .ok (.if_icmp .ne 5, 3) := by decide +kernel
theorem d_Pa_wasExchanged_34 : decode prog_8_method_24_code 34 = .ok (.iconst 1, 1) := by decide +kernel
theorem d_Pa_wasExchanged_35 : decode prog_8_method_24_code 35 = .ok (.ireturn, 1) := by decide +kernel
theorem d_Pa_wasExchanged_36 : decode prog_8_method_24_code 36 = .ok (.iinc 2 1, 3) := by decide +kernel
theorem d_Pa_wasExchanged_39 : decode prog_8_method_24_code 39 = .ok (.goto (-31), 3) := by decide +kernel
theorem d_Pa_wasExchanged_42 : decode prog_8_method_24_code 42 = .ok (.iconst 0, 1) := by decide +kernel
theorem d_Pa_wasExchanged_43 : decode prog_8_method_24_code 43 = .ok (.ireturn, 1) := by decide +kernel
theorem d_Pa_readExchange_0 : decode prog_8_method_22_code 0 = .ok (.aload_n 0, 1) := by decide +kernel
theorem d_Pa_readExchange_1 : decode prog_8_method_22_code 1 = .ok (.getfield 12, 3) := by decide +kernel
theorem d_Pa_readExchange_4 : decode prog_8_method_22_code 4 = .ok (.dup, 1) := by decide +kernel
theorem d_Pa_readExchange_5 : decode prog_8_method_22_code 5 = .ok (.getfield 46, 3) := by decide +kernel
theorem d_Pa_readExchange_8 : decode prog_8_method_22_code 8 = .ok (.iconst 1, 1) := by decide +kernel
theorem d_Pa_readExchange_9 : decode prog_8_method_22_code 9 = .ok (.iadd, 1) := by decide +kernel
theorem d_Pa_readExchange_10 : decode prog_8_method_22_code 10 = .ok (.putfield 46, 3) := by decide +kernel
theorem d_Pa_readExchange_13 : decode prog_8_method_22_code 13 = .ok (.aload_n 0, 1) := by decide +kernel
theorem d_Pa_readExchange_14 : decode prog_8_method_22_code 14 = .ok (.getfield 12, 3) := by decide +kernel
theorem d_Pa_readExchange_17 : decode prog_8_method_22_code 17 = .ok (.bipush 47, 2) := by decide +kernel
theorem d_Pa_readExchange_19 : decode prog_8_method_22_code 19 = .ok (.invokevirtual 190, 3) := by decide +kernel
theorem d_Pa_readExchange_22 : decode prog_8_method_22_code 22 = .ok (.ifCond .ne 5, 3) := by decide +kernel
theorem d_Pa_readExchange_25 : decode prog_8_method_22_code 25 = .ok (.iconst 0, 1) := by decide +kernel
theorem d_Pa_readExchange_26 : decode prog_8_method_22_code 26 = .ok (.ireturn, 1) := by decide +kernel
theorem d_Pa_readExchange_27 : decode prog_8_method_22_code 27 = .ok (.aload_n 0, 1) := by decide +kernel
theorem d_Pa_readExchange_28 : decode prog_8_method_22_code 28 = .ok (.getfield 114, 3) := by decide +kernel
theorem d_Pa_readExchange_31 : decode prog_8_method_22_code 31 = .ok (.aload_n 0, 1) := by decide +kernel
theorem d_Pa_readExchange_32 : decode prog_8_method_22_code 32 = .ok (.getfield 12, 3) := by decide +kernel
theorem d_Pa_readExchange_35 : decode prog_8_method_22_code 35 = .ok (.getfield 46, 3) := by decide +kernel
theorem d_Pa_readExchange_38 : decode prog_8_method_22_code 38 = .ok (.putfield 193, 3) := by decide +kernel
theorem d_Pa_readExchange_41 : decode prog_8_method_22_code 41 = .ok (.iconst 0, 1) := by decide +kernel
theorem d_Pa_readExchange_42 : decode prog_8_method_22_code 42 = .ok (.istore_n 1, 1) := by decide +kernel
theorem d_Pa_readExchange_43 : decode prog_8_method_22_code 43 = .ok (.iload_n 1, 1) := by decide +kernel
theorem d_Pa_readExchange_44 : decode prog_8_method_22_code 44 = .ok (.sipush 240, 3) := by decide +kernel
theorem d_Pa_readExchange_47 : decode prog_8_method_22_code 47 = .ok (.if_icmp .gt 73, 3) := by decide +kernel
theorem d_Pa_readExchange_50 : decode prog_8_method_22_code 50 = .ok (.aload_n 0, 1) := by decide +kernel
theorem d_Pa_readExchange_51 : decode prog_8_method_22_code 51 = .ok (.getfield 12, 3) := by decide +kernel
theorem d_Pa_readExchange_54 : decode prog_8_method_22_code 54 = .ok (.iconst 0, 1) := by decide +kernel
theorem d_Pa_readExchange_55 : decode prog_8_method_22_code 55 = .ok (.invokevirtual 42, 3) := by decide +kernel
theorem d_Pa_readExchange_58 : decode prog_8_method_22_code 58 = .ok (.bipush 47, 2) := by decide +kernel
theorem d_Pa_readExchange_60 : decode prog_8_method_22_code 60 = .ok (.if_icmp .eq 60, 3) := by decide +kernel
theorem d_Pa_readExchange_63 : decode prog_8_method_22_code 63 = .ok (.aload_n 0, 1) := by decide +kernel
theorem d_Pa_readExchange_64 : decode prog_8_method_22_code 64 = .ok (.getfield 12, 3) := by decide +kernel
theorem d_Pa_readExchange_67 : decode prog_8_method_22_code 67 = .ok (.iconst 0, 1) := by decide +kernel
theorem d_Pa_readExchange_68 : decode prog_8_method_22_code 68 = .ok (.invokevirtual 42, 3) := by decide +kernel
theorem d_Pa_readExchange_71 : decode prog_8_method_22_code 71 = .ok (.invokestatic 226, 3) := by decide +kernel
theorem d_Pa_readExchange_74 : decode prog_8_method_22_code 74 = .ok (.ifCond .eq 18, 3) := by decide +kernel
theorem d_Pa_readExchange_77 : decode prog_8_method_22_code 77 = .ok (.aload_n 0, 1) := by decide +kernel
theorem d_Pa_readExchange_78 : decode prog_8_method_22_code 78 = .ok (.aload_n 0, 1) := by decide +kernel
theorem d_Pa_readExchange_79 : decode prog_8_method_22_code 79 = .ok (.getfield 12, 3) := by decide +kernel
theorem d_Pa_readExchange_82 : decode prog_8_method_22_code 82 = .ok (.iconst 0, 1) := by decide +kernel
theorem d_Pa_readExchange_83 : decode prog_8_method_22_code 83 = .ok (.invokevirtual 42, 3) := by decide +kernel
theorem d_Pa_readExchange_86 : decode prog_8_method_22_code 86 = .ok (.invokevirtual 229, 3) := by decide +kernel
theorem d_Pa_readExchange_89 : decode prog_8_method_22_code 89 = .ok (.ifCond .eq 12, 3) := by decide +kernel
theorem d_Pa_readExchange_92 : decode prog_8_method_22_code 92 = .ok (.aload_n 0, 1) := by decide +kernel
theorem d_Pa_readExchange_93 : decode prog_8_method_22_code 93 = .ok (.getfield 12, 3) := by decide +kernel
theorem d_Pa_readExchange_96 : decode prog_8_method_22_code 96 = .ok (.iconst 0, 1) := by decide +kernel
theorem d_Pa_readExchange_97 : decode prog_8_method_22_code 97 = .ok (.invokevirtual 68, 3) := by decide +kernel
theorem d_Pa_readExchange_100 : decode prog_8_method_22_code 100 = .ok (.ireturn, 1) := by decide +kernel
theorem d_Pa_readExchange_101 : decode prog_8_method_22_code 101 = .ok (.aload_n 0, 1) := by decide +kernel
theorem d_Pa_readExchange_102 : decode prog_8_method_22_code 102 = .ok (.getfield 12, 3) := by decide +kernel
theorem d_Pa_readExchange_105 : decode prog_8_method_22_code 105 = .ok (.dup, 1) := by decide +kernel
theorem d_Pa_readExchange_106 : decode prog_8_method_22_code 106 = .ok (.getfield 46, 3) := by decide +kernel
theorem d_Pa_readExchange_109 : decode prog_8_method_22_code 109 = .ok (.iconst 1, 1) := by decide +kernel
theorem d_Pa_readExchange_110 : decode prog_8_method_22_code 110 = .ok (.iadd, 1) := by decide +kernel
theorem d_Pa_readExchange_111 : decode prog_8_method_22_code 111 = .ok (.putfield 46, 3) := by decide +kernel
theorem d_Pa_readExchange_114 : decode prog_8_method_22_code 114 = .ok (.iinc 1 1, 3) := by decide +kernel
theorem d_Pa_readExchange_117 : decode prog_8_method_22_code 117 = .ok (.goto (-74), 3) := by decide +kernel
theorem d_Pa_readExchange_120 : decode prog_8_method_22_code 120 = .ok (.aload_n 0, 1) := by decide +kernel
theorem d_Pa_readExchange_121 : decode prog_8_method_22_code 121 = .ok (.getfield 114, 3) := by decide +kernel
theorem d_Pa_readExchange_124 : decode prog_8_method_22_code 124 = .ok (.aload_n 0, 1) := by decide +kernel
theorem d_Pa_readExchange_125 : decode prog_8_method_22_code 125 = .ok (.getfield 12, 3) := by decide +kernel
theorem d_Pa_readExchange_128 : decode prog_8_method_22_code 128 = .ok (.getfield 46, 3) := by decide +kernel
theorem d_Pa_readExchange_131 : decode prog_8_method_22_code 131 = .ok (.putfield 199, 3) := by decide +kernel
theorem d_Pa_readExchange_134 : decode prog_8_method_22_code 134 = .ok (.aload_n 0, 1) := by decide +kernel
theorem d_Pa_readExchange_135 : decode prog_8_method_22_code 135 = .ok (.getfield 12, 3) := by decide +kernel
theorem d_Pa_readExchange_138 : decode prog_8_method_22_code 138 = .ok (.dup, 1) := by decide +kernel
theorem d_Pa_readExchange_139 : decode prog_8_method_22_code 139 = .ok (.getfield 46, 3) := by decide +kernel
theorem d_Pa_readExchange_142 : decode prog_8_method_22_code 142 = .ok (.iconst 1, 1) := by decide +kernel
theorem d_Pa_readExchange_143 : decode prog_8_method_22_code 143 = .ok (.iadd, 1) := by decide +kernel
theorem d_Pa_readExchange_144 : decode prog_8_method_22_code 144 = .ok (.putfield 46, 3) := by decide +kernel
theorem d_Pa_readExchange_147 : decode prog_8_method_22_code 147 = .ok (.aload_n 0, 1) := by decide +kernel
theorem d_Pa_readExchange_148 : decode prog_8_method_22_code 148 = .ok (.getfield 114, 3) := by decide +kernel
theorem d_Pa_readExchange_151 : decode prog_8_method_22_code 151 = .ok (.aload_n 0, 1) := by decide +kernel
theorem d_Pa_readExchange_152 : decode prog_8_method_22_code 152 = .ok (.getfield 12, 3) := by decide +kernel
theorem d_Pa_readExchange_155 : decode prog_8_method_22_code 155 = .ok (.getfield 46, 3) := by decide +kernel
theorem d_Pa_readExchange_158 : decode prog_8_method_22_code 158 = .ok (.putfield 232, 3) := by decide +kernel
theorem d_Pa_readExchange_161 : decode prog_8_method_22_code 161 = .ok (.aload_n 0, 1) := by decide +kernel
theorem d_Pa_readExchange_162 : decode prog_8_method_22_code 162 = .ok (.getfield 114, 3) := by decide +kernel
theorem d_Pa_readExchange_165 : decode prog_8_method_22_code 165 = .ok (.getfield 193, 3) := by decide +kernel
theorem d_Pa_readExchange_168 : decode prog_8_method_22_code 168 = .ok (.istore_n 1, 1) := by decide +kernel
theorem d_Pa_readExchange_169 : decode prog_8_method_22_code 169 = .ok (.iload_n 1, 1) := by decide +kernel
theorem d_Pa_readExchange_170 : decode prog_8_method_22_code 170 = .ok (.aload_n 0, 1) := by decide +kernel
theorem d_Pa_readExchange_171 : decode prog_8_method_22_code 171 = .ok (.getfield 114, 3) := by decide +kernel
theorem d_Pa_readExchange_174 : decode prog_8_method_22_code 174 = .ok (.getfield 199, 3) := by decide +kernel
theorem d_Pa_readExchange_177 : decode prog_8_method_22_code 177 = .ok (.if_icmp .ge 58, 3) := by decide +kernel
theorem d_Pa_readExchange_180 : decode prog_8_method_22_code 180 = .ok (.aload_n 0, 1) := by decide +kernel
theorem d_Pa_readExchange_181 : decode prog_8_method_22_code 181 = .ok (.getfield 12, 3) := by decide +kernel
theorem d_Pa_readExchange_184 : decode prog_8_method_22_code 184 = .ok (.iconst 0, 1) := by decide +kernel
theorem d_Pa_readExchange_185 : decode prog_8_method_22_code 185 = .ok (.invokevirtual 42, 3) := by decide +kernel
theorem d_Pa_readExchange_188 : decode prog_8_method_22_code 188 = .ok (.bipush 47, 2) := by decide +kernel
theorem d_Pa_readExchange_190 : decode prog_8_method_22_code 190 = .ok (.if_icmp .eq 17, 3) := by decide +kernel
theorem d_Pa_readExchange_193 : decode prog_8_method_22_code 193 = .ok (.aload_n 0, 1) := by decide +kernel
theorem d_Pa_readExchange_194 : decode prog_8_method_22_code 194 = .ok (.getfield 12, 3) := by decide +kernel
theorem d_Pa_readExchange_197 : decode prog_8_method_22_code 197 = .ok (.iconst 0, 1) := by decide +kernel
theorem d_Pa_readExchange_198 : decode prog_8_method_22_code 198 = .ok (.invokevirtual 42, 3) := by decide +kernel
theorem d_Pa_readExchange_201 : decode prog_8_method_22_code 201 = .ok (.invokestatic 226, 3) := by decide +kernel
theorem d_Pa_readExchange_204 : decode prog_8_method_22_code 204 = .ok (.ifCond .ne 12, 3) := by decide +kernel
theorem d_Pa_readExchange_207 : decode prog_8_method_22_code 207 = .ok (.aload_n 0, 1) := by decide +kernel
theorem d_Pa_readExchange_208 : decode prog_8_method_22_code 208 = .ok (.getfield 12, 3) := by decide +kernel
theorem d_Pa_readExchange_211 : decode prog_8_method_22_code 211 = .ok (.iconst 0, 1) := by decide +kernel
theorem d_Pa_readExchange_212 : decode prog_8_method_22_code 212 = .ok (.invokevirtual 68, 3) := by decide +kernel
theorem d_Pa_readExchange_215 : decode prog_8_method_22_code 215 = .ok (.ireturn, 1) := by decide +kernel
theorem d_Pa_readExchange_216 : decode prog_8_method_22_code 216 = .ok (.aload_n 0, 1) := by decide +kernel
theorem d_Pa_readExchange_217 : decode prog_8_method_22_code 217 = .ok (.getfield 12, 3) := by decide +kernel
theorem d_Pa_readExchange_220 : decode prog_8_method_22_code 220 = .ok (.dup, 1) := by decide +kernel
theorem d_Pa_readExchange_221 : decode prog_8_method_22_code 221 = .ok (.getfield 46, 3) := by decide +kernel
theorem d_Pa_readExchange_224 : decode prog_8_method_22_code 224 = .ok (.iconst 1, 1) := by decide +kernel
theorem d_Pa_readExchange_225 : decode prog_8_method_22_code 225 = .ok (.iadd, 1) := by decide +kernel
theorem d_Pa_readExchange_226 : decode prog_8_method_22_code 226 = .ok (.putfield 46, 3) := by decide +kernel
theorem d_Pa_readExchange_229 : decode prog_8_method_22_code 229 = .ok (.iinc 1 1, 3) := by decide +kernel
theorem d_Pa_readExchange_232 : decode prog_8_method_22_code 232 = .ok (.goto (-63), 3) := by decide +kernel
theorem d_Pa_readExchange_235 : decode prog_8_method_22_code 235 = .ok (.aload_n 0, 1) := by decide +kernel
theorem d_Pa_readExchange_236 : decode prog_8_method_22_code 236 = .ok (.getfield 12, 3) := by decide +kernel
theorem d_Pa_readExchange_239 : decode prog_8_method_22_code 239 = .ok (.bipush 47, 2) := by decide +kernel
theorem d_Pa_readExchange_241 : decode prog_8_method_22_code 241 = .ok (.invokevirtual 190, 3) := by decide +kernel
theorem d_Pa_readExchange_244 : decode prog_8_method_22_code 244 = .ok (.ireturn, 1) := by decide +kernel
theorem d_Pa_readText_0 : decode prog_8_method_17_code 0 = .ok (.aload_n 0, 1) := by decide +kernel
theorem d_Pa_readText_1 : decode prog_8_method_17_code 1 = .ok (.getfield 12, 3) := by decide +kernel
theorem d_Pa_readText_4 : decode prog_8_method_17_code 4 = .ok (.dup, 1) := by decide +kernel
theorem d_Pa_readText_5 : decode prog_8_method_17_code 5 = .ok (.getfield 46, 3) := by decide +kernel
theorem d_Pa_readText_8 : decode prog_8_method_17_code 8 = .ok (.iconst 1, 1) := by decide +kernel
theorem d_Pa_readText_9 : decode prog_8_method_17_code 9 = .ok (.iadd, 1) := by decide +kernel
theorem d_Pa_readText_10 : decode prog_8_method_17_code 10 = .ok (.putfield 46, 3) := by decide +kernel
theorem d_Pa_readText_13 : decode prog_8_method_17_code 13 = .ok (.aload_n 0, 1) := by decide +kernel
theorem d_Pa_readText_14 : decode prog_8_method_17_code 14 = .ok (.getfield 12, 3) := by decide +kernel
theorem d_Pa_readText_17 : decode prog_8_method_17_code 17 = .ok (.bipush 32, 2) := by decide +kernel
theorem d_Pa_readText_19 : decode prog_8_method_17_code 19 = .ok (.invokevirtual 190, 3) := by decide +kernel
theorem d_Pa_readText_22 : decode prog_8_method_17_code 22 = .ok (.ifCond .ne 5, 3) := by decide +kernel
theorem d_Pa_readText_25 : decode prog_8_method_17_code 25 = .ok (.iconst 0, 1) := by decide +kernel
theorem d_Pa_readText_26 : decode prog_8_method_17_code 26 = .ok (.ireturn, 1) := by decide +kernel
theorem d_Pa_readText_27 : decode prog_8_method_17_code 27 = .ok (.aload_n 0, 1) := by decide +kernel
theorem d_Pa_readText_28 : decode prog_8_method_17_code 28 = .ok (.getfield 114, 3) := by decide +kernel
theorem d_Pa_readText_31 : decode prog_8_method_17_code 31 = .ok (.aload_n 0, 1) := by decide +kernel
theorem d_Pa_readText_32 : decode prog_8_method_17_code 32 = .ok (.getfield 12, 3) := by decide +kernel
theorem d_Pa_readText_35 : decode prog_8_method_17_code 35 = .ok (.getfield 46, 3) := by decide +kernel
theorem d_Pa_readText_38 : decode prog_8_method_17_code 38 = .ok (.putfield 193, 3) := by decide +kernel
theorem d_Pa_readText_41 : decode prog_8_method_17_code 41 = .ok (.aload_n 0, 1) := by decide +kernel
theorem d_Pa_readText_42 : decode prog_8_method_17_code 42 = .ok (.getfield 114, 3) := by decide +kernel
theorem d_Pa_readText_45 : decode prog_8_method_17_code 45 = .ok (.aload_n 0, 1) := by decide +kernel
theorem d_Pa_readText_46 : decode prog_8_method_17_code 46 = .ok (.getfield 72, 3) := by decide +kernel
theorem d_Pa_readText_49 : decode prog_8_method_17_code 49 = .ok (.getfield 76, 3) := by decide +kernel
theorem d_Pa_readText_52 : decode prog_8_method_17_code 52 = .ok (.aload_n 0, 1) := by decide +kernel
theorem d_Pa_readText_53 : decode prog_8_method_17_code 53 = .ok (.getfield 12, 3) := by decide +kernel
theorem d_Pa_readText_56 : decode prog_8_method_17_code 56 = .ok (.getfield 46, 3) := by decide +kernel
theorem d_Pa_readText_59 : decode prog_8_method_17_code 59 = .ok (.invokevirtual 196, 3) := by decide +kernel
theorem d_Pa_readText_62 : decode prog_8_method_17_code 62 = .ok (.putfield 199, 3) := by decide +kernel
theorem d_Pa_readText_65 : decode prog_8_method_17_code 65 = .ok (.aload_n 0, 1) := by decide +kernel
theorem d_Pa_readText_66 : decode prog_8_method_17_code 66 = .ok (.getfield 12, 3) := by decide +kernel
theorem d_Pa_readText_69 : decode prog_8_method_17_code 69 = .ok (.aload_n 0, 1) := by decide +kernel
theorem d_Pa_readText_70 : decode prog_8_method_17_code 70 = .ok (.getfield 114, 3) := by decide +kernel
theorem d_Pa_readText_73 : decode prog_8_method_17_code 73 = .ok (.getfield 199, 3) := by decide +kernel
theorem d_Pa_readText_76 : decode prog_8_method_17_code 76 = .ok (.putfield 46, 3) := by decide +kernel
theorem d_Pa_readText_79 : decode prog_8_method_17_code 79 = .ok (.iconst 1, 1) := by decide +kernel
theorem d_Pa_readText_80 : decode prog_8_method_17_code 80 = .ok (.ireturn, 1) := by decide +kernel
theorem d_Pa_readAction_0 : decode prog_8_method_11_code 0 = .ok (.aload_n 0, 1) := by decide +kernel
theorem d_Pa_readAction_1 : decode prog_8_method_11_code 1 = .ok (.getfield 12, 3) := by decide +kernel
theorem d_Pa_readAction_4 : decode prog_8_method_11_code 4 = .ok (.iconst 0, 1) := by decide +kernel
theorem d_Pa_readAction_5 : decode prog_8_method_11_code 5 = .ok (.invokevirtual 42, 3) := by decide +kernel
theorem d_Pa_readAction_8 : decode prog_8_method_11_code 8 = .ok (.istore_n 1, 1) := by decide +kernel
theorem d_Pa_readAction_9 : decode prog_8_method_11_code 9 = .ok (.aload_n 0, 1) := by decide +kernel
theorem d_Pa_readAction_10 : decode prog_8_method_11_code 10 = .ok (.getfield 114, 3) := by decide +kernel
theorem d_Pa_readAction_13 : decode prog_8_method_11_code 13 = .ok (.iload_n 1, 1) := by decide +kernel
theorem d_Pa_readAction_14 : decode prog_8_method_11_code 14 = .ok (.putfield 161, 3) := by decide +kernel
theorem d_Pa_readAction_17 : decode prog_8_method_11_code 17 = .ok (.aload_n 0, 1) := by decide +kernel
theorem d_Pa_readAction_18 : decode prog_8_method_11_code 18 = .ok (.getfield 114, 3) := by decide +kernel
theorem d_Pa_readAction_21 : decode prog_8_method_11_code 21 = .ok (.aload_n 0, 1) := by decide +kernel
theorem d_Pa_readAction_22 : decode prog_8_method_11_code 22 = .ok (.getfield 12, 3) := by decide +kernel
theorem d_Pa_readAction_25 : decode prog_8_method_11_code 25 = .ok (.getfield 46, 3) := by decide +kernel
theorem d_Pa_readAction_28 : decode prog_8_method_11_code 28 = .ok (.putfield 162, 3) := by decide +kernel
theorem d_Pa_readAction_31 : decode prog_8_method_11_code 31 = .ok (.iload_n 1, 1) := by decide +kernel
theorem d_Pa_readAction_32 : decode prog_8_method_11_code 32 = .ok (.tableswitch 388 58 123 #[285, 388, 388, 370, 388, 388, 388, 388, 388, 388, 370, 388, 388, 370, 370, 388, 388, 388, 388, 388, 370, 388, 370, 388, 388, 388, 388, 388, 388, 388, 388, 388, 388, 388, 388, 388, 388, 388, 388, 365, 305, 365, 370, 388, 388, 370, 370, 365, 388, 388, 388, 388, 370, 388, 370, 370, 388, 325, 305, 388, 388, 388, 370, 345, 388, 280], 280) := by decide +kernel
theorem d_Pa_readAction_312 : decode prog_8_method_11_code 312 = .ok (.aload_n 0, 1) := by decide +kernel
theorem d_Pa_readAction_313 : decode prog_8_method_11_code 313 = .ok (.invokevirtual 163, 3) := by decide +kernel
theorem d_Pa_readAction_316 : decode prog_8_method_11_code 316 = .ok (.ireturn, 1) := by decide +kernel
theorem d_Pa_readAction_317 : decode prog_8_method_11_code 317 = .ok (.aload_n 0, 1) := by decide +kernel
theorem d_Pa_readAction_318 : decode prog_8_method_11_code 318 = .ok (.invokevirtual 166, 3) := by decide +kernel
theorem d_Pa_readAction_321 : decode prog_8_method_11_code 321 = .ok (.ifCond .eq 14, 3) := by decide +kernel
theorem d_Pa_readAction_324 : decode prog_8_method_11_code 324 = .ok (.aload_n 0, 1) := by decide +kernel
theorem d_Pa_readAction_325 : decode prog_8_method_11_code 325 = .ok (.invokevirtual 169, 3) := by decide +kernel
theorem d_Pa_readAction_328 : decode prog_8_method_11_code 328 = .ok (.ifCond .eq 7, 3) := by decide +kernel
theorem d_Pa_readAction_331 : decode prog_8_method_11_code 331 = .ok (.iconst 1, 1) := by decide +kernel
theorem d_Pa_readAction_332 : decode prog_8_method_11_code 332 = .ok (.goto 4, 3) := by decide +kernel
theorem d_Pa_readAction_335 : decode prog_8_method_11_code 335 = .ok (.iconst 0, 1) := by decide +kernel
theorem d_Pa_readAction_336 : decode prog_8_method_11_code 336 = .ok (.ireturn, 1) := by decide +kernel
theorem d_Pa_readAction_337 : decode prog_8_method_11_code 337 = .ok (.aload_n 0, 1) := by decide +kernel
theorem d_Pa_readAction_338 : decode prog_8_method_11_code 338 = .ok (.invokevirtual 172, 3) := by decide +kernel
theorem d_Pa_readAction_341 : decode prog_8_method_11_code 341 = .ok (.ifCond .eq 14, 3) := by decide +kernel
theorem d_Pa_readAction_344 : decode prog_8_method_11_code 344 = .ok (.aload_n 0, 1) := by decide +kernel
theorem d_Pa_readAction_345 : decode prog_8_method_11_code 345 = .ok (.invokevirtual 169, 3) := by decide +kernel
theorem d_Pa_readAction_348 : decode prog_8_method_11_code 348 = .ok (.ifCond .eq 7, 3) := by decide +kernel
theorem d_Pa_readAction_351 : decode prog_8_method_11_code 351 = .ok (.iconst 1, 1) := by decide +kernel
theorem d_Pa_readAction_352 : decode prog_8_method_11_code 352 = .ok (.goto 4, 3) := by decide +kernel
theorem d_Pa_readAction_355 : decode prog_8_method_11_code 355 = .ok (.iconst 0, 1) := by decide +kernel
theorem d_Pa_readAction_356 : decode prog_8_method_11_code 356 = .ok (.ireturn, 1) := by decide +kernel
theorem d_Pa_readAction_357 : decode prog_8_method_11_code 357 = .ok (.aload_n 0, 1) := by decide +kernel
theorem d_Pa_readAction_358 : decode prog_8_method_11_code 358 = .ok (.invokevirtual 175, 3) := by decide +kernel
theorem d_Pa_readAction_361 : decode prog_8_method_11_code 361 = .ok (.ifCond .eq 14, 3) := by decide +kernel
theorem d_Pa_readAction_364 : decode prog_8_method_11_code 364 = .ok (.aload_n 0, 1) := by decide +kernel
theorem d_Pa_readAction_365 : decode prog_8_method_11_code 365 = .ok (.invokevirtual 169, 3) := by decide +kernel
theorem d_Pa_readAction_368 : decode prog_8_method_11_code 368 = .ok (.ifCond .eq 7, 3) := by decide +kernel
theorem d_Pa_readAction_371 : decode prog_8_method_11_code 371 = .ok (.iconst 1, 1) := by decide +kernel
theorem d_Pa_readAction_372 : decode prog_8_method_11_code 372 = .ok (.goto 4, 3) := by decide +kernel
theorem d_Pa_readAction_375 : decode prog_8_method_11_code 375 = .ok (.iconst 0, 1) := by decide +kernel
theorem d_Pa_readAction_376 : decode prog_8_method_11_code 376 = .ok (.ireturn, 1) := by decide +kernel
theorem d_Pa_readAction_377 : decode prog_8_method_11_code 377 = .ok (.aload_n 0, 1) := by decide +kernel
theorem d_Pa_readAction_378 : decode prog_8_method_11_code 378 = .ok (.invokevirtual 178, 3) := by decide +kernel
theorem d_Pa_readAction_381 : decode prog_8_method_11_code 381 = .ok (.ifCond .eq 14, 3) := by decide +kernel
theorem d_Pa_readAction_384 : decode prog_8_method_11_code 384 = .ok (.aload_n 0, 1) := by decide +kernel
theorem d_Pa_readAction_385 : decode prog_8_method_11_code 385 = .ok (.invokevirtual 169, 3) := by decide +kernel
theorem d_Pa_readAction_388 : decode prog_8_method_11_code 388 = .ok (.ifCond .eq 7, 3) := by decide +kernel
theorem d_Pa_readAction_391 : decode prog_8_method_11_code 391 = .ok (.iconst 1, 1) := by decide +kernel
theorem d_Pa_readAction_392 : decode prog_8_method_11_code 392 = .ok (.goto 4, 3) := by decide +kernel
theorem d_Pa_readAction_395 : decode prog_8_method_11_code 395 = .ok (.iconst 0, 1) := by decide +kernel
theorem d_Pa_readAction_396 : decode prog_8_method_11_code 396 = .ok (.ireturn, 1) := by decide +kernel
theorem d_Pa_readAction_397 : decode prog_8_method_11_code 397 = .ok (.aload_n 0, 1) := by decide +kernel
theorem d_Pa_readAction_398 : decode prog_8_method_11_code 398 = .ok (.invokevirtual 181, 3) := by decide +kernel
theorem d_Pa_readAction_401 : decode prog_8_method_11_code 401 = .ok (.ireturn, 1) := by decide +kernel
theorem d_Pa_readAction_402 : decode prog_8_method_11_code 402 = .ok (.aload_n 0, 1) := by decide +kernel
theorem d_Pa_readAction_403 : decode prog_8_method_11_code 403 = .ok (.getfield 12, 3) := by decide +kernel
theorem d_Pa_readAction_406 : decode prog_8_method_11_code 406 = .ok (.dup, 1) := by decide +kernel
theorem d_Pa_readAction_407 : decode prog_8_method_11_code 407 = .ok (.getfield 46, 3) := by decide +kernel
theorem d_Pa_readAction_410 : decode prog_8_method_11_code 410 = .ok (.iconst 1, 1) := by decide +kernel
theorem d_Pa_readAction_411 : decode prog_8_method_11_code 411 = .ok (.iadd, 1) := by decide +kernel
theorem d_Pa_readAction_412 : decode prog_8_method_11_code 412 = .ok (.putfield 46, 3) := by decide +kernel
theorem d_Pa_readAction_415 : decode prog_8_method_11_code 415 = .ok (.aload_n 0, 1) := by decide +kernel
theorem d_Pa_readAction_416 : decode prog_8_method_11_code 416 = .ok (.invokevirtual 169, 3) := by decide +kernel
theorem d_Pa_readAction_419 : decode prog_8_method_11_code 419 = .ok (.ireturn, 1) := by decide +kernel
theorem d_Pa_readAction_420 : decode prog_8_method_11_code 420 = .ok (.aload_n 0, 1) := by decide +kernel
theorem d_Pa_readAction_421 : decode prog_8_method_11_code 421 = .ok (.getfield 12, 3) := by decide +kernel
theorem d_Pa_readAction_424 : decode prog_8_method_11_code 424 = .ok (.iconst 0, 1) := by decide +kernel
theorem d_Pa_readAction_425 : decode prog_8_method_11_code 425 = .ok (.invokevirtual 68, 3) := by decide +kernel
theorem d_Pa_readAction_428 : decode prog_8_method_11_code 428 = .ok (.ireturn, 1) := by decide +kernel
theorem d_Pa_joinLabels_0 : decode prog_8_method_25_code 0 = .ok (.iconst 0, 1) := by decide +kernel
theorem d_Pa_joinLabels_1 : decode prog_8_method_25_code 1 = .ok (.istore_n 1, 1) := by decide +kernel
theorem d_Pa_joinLabels_2 : decode prog_8_method_25_code 2 = .ok (.iload_n 1, 1) := by decide +kernel
theorem d_Pa_joinLabels_3 : decode prog_8_method_25_code 3 = .ok (.aload_n 0, 1) := by decide +kernel
theorem d_Pa_joinLabels_4 : decode prog_8_method_25_code 4 = .ok (.getfield 72, 3) := by decide +kernel
theorem d_Pa_joinLabels_7 : decode prog_8_method_25_code 7 = .ok (.getfield 103, 3) := by decide +kernel
theorem d_Pa_joinLabels_10 : decode prog_8_method_25_code 10 = .ok (.if_icmp .ge 96, 3) := by decide +kernel
theorem d_Pa_joinLabels_13 : decode prog_8_method_25_code 13 = .ok (.aload_n 0, 1) := by decide +kernel
theorem d_Pa_joinLabels_14 : decode prog_8_method_25_code 14 = .ok (.getfield 72, 3) := by decide +kernel
theorem d_Pa_joinLabels_17 : decode prog_8_method_25_code 17 = .ok (.getfield 105, 3) := by decide +kernel
theorem d_Pa_joinLabels_20 : decode prog_8_method_25_code 20 = .ok (.iload_n 1, 1) := by decide +kernel
theorem d_Pa_joinLabels_21 : decode prog_8_method_25_code 21 = .ok (.aaload, 1) := by decide +kernel
theorem d_Pa_joinLabels_22 : decode prog_8_method_25_code 22 = .ok (.astore_n 2, 1) := by decide +kernel
theorem d_Pa_joinLabels_23 : decode prog_8_method_25_code 23 = .ok (.aload_n 2, 1) := by decide +kernel
theorem d_Pa_joinLabels_24 : decode prog_8_method_25_code 24 = .ok (.getfield 161, 3) := by decide +kernel
theorem d_Pa_joinLabels_27 : decode prog_8_method_25_code 27 = .ok (.bipush 98, 2) := by decide +kernel
theorem d_Pa_joinLabels_29 : decode prog_8_method_25_code 29 = .ok (.if_icmp .eq 12, 3) := by decide +kernel
theorem d_Pa_joinLabels_32 : decode prog_8_method_25_code 32 = .ok (.aload_n 2, 1) := by decide +kernel
theorem d_Pa_joinLabels_33 : decode prog_8_method_25_code 33 = .ok (.getfield 161, 3) := by decide +kernel
theorem d_Pa_joinLabels_36 : decode prog_8_method_25_code 36 = .ok (.bipush 116, 2) := by decide +kernel
theorem d_Pa_joinLabels_38 : decode prog_8_method_25_code 38 = .ok (.if_icmp .ne 62, 3) := by decide +kernel
theorem d_Pa_joinLabels_41 : decode prog_8_method_25_code 41 = .ok (.aload_n 2, 1) := by decide +kernel
theorem d_Pa_joinLabels_42 : decode prog_8_method_25_code 42 = .ok (.aload_n 2, 1) := by decide +kernel
theorem d_Pa_joinLabels_43 : decode prog_8_method_25_code 43 = .ok (.getfield 187, 3) := by decide +kernel
theorem d_Pa_joinLabels_46 : decode prog_8_method_25_code 46 = .ok (.iconst (-1), 1) := by decide +kernel
theorem d_Pa_joinLabels_47 : decode prog_8_method_25_code 47 = .ok (.if_icmp .ne 13, 3) := by decide +kernel
theorem d_Pa_joinLabels_50 : decode prog_8_method_25_code 50 = .ok (.aload_n 0, 1) := by decide +kernel
theorem d_Pa_joinLabels_51 : decode prog_8_method_25_code 51 = .ok (.getfield 72, 3) := by decide +kernel
theorem d_Pa_joinLabels_54 : decode prog_8_method_25_code 54 = .ok (.getfield 103, 3) := by decide +kernel
theorem d_Pa_joinLabels_57 : decode prog_8_method_25_code 57 = .ok (.goto 12, 3) := by decide +kernel
theorem d_Pa_joinLabels_60 : decode prog_8_method_25_code 60 = .ok (.aload_n 0, 1) := by decide +kernel
theorem d_Pa_joinLabels_61 : decode prog_8_method_25_code 61 = .ok (.getfield 31, 3) := by decide +kernel
theorem d_Pa_joinLabels_64 : decode prog_8_method_25_code 64 = .ok (.aload_n 2, 1) := by decide +kernel
theorem d_Pa_joinLabels_65 : decode prog_8_method_25_code 65 = .ok (.getfield 187, 3) := by decide +kernel
theorem d_Pa_joinLabels_68 : decode prog_8_method_25_code 68 = .ok (.iaload, 1) := by decide +kernel
theorem d_Pa_joinLabels_69 : decode prog_8_method_25_code 69 = .ok (.putfield 109, 3) := by decide +kernel
theorem d_Pa_joinLabels_72 : decode prog_8_method_25_code 72 = .ok (.aload_n 2, 1) := by decide +kernel
theorem d_Pa_joinLabels_73 : decode prog_8_method_25_code 73 = .ok (.getfield 109, 3) := by decide +kernel
theorem d_Pa_joinLabels_76 : decode prog_8_method_25_code 76 = .ok (.iconst (-1), 1) := by decide +kernel
theorem d_Pa_joinLabels_77 : decode prog_8_method_25_code 77 = .ok (.if_icmp .ne 23, 3) := by decide +kernel
theorem d_Pa_joinLabels_80 : decode prog_8_method_25_code 80 = .ok (.aload_n 0, 1) := by decide +kernel
theorem d_Pa_joinLabels_81 : decode prog_8_method_25_code 81 = .ok (.getfield 12, 3) := by decide +kernel
theorem d_Pa_joinLabels_84 : decode prog_8_method_25_code 84 = .ok (.aload_n 2, 1) := by decide +kernel
theorem d_Pa_joinLabels_85 : decode prog_8_method_25_code 85 = .ok (.getfield 162, 3) := by decide +kernel
theorem d_Pa_joinLabels_88 : decode prog_8_method_25_code 88 = .ok (.putfield 46, 3) := by decide +kernel
theorem d_Pa_joinLabels_91 : decode prog_8_method_25_code 91 = .ok (.aload_n 0, 1) := by decide +kernel
theorem d_Pa_joinLabels_92 : decode prog_8_method_25_code 92 = .ok (.getfield 12, 3) := by decide +kernel
theorem d_Pa_joinLabels_95 : decode prog_8_method_25_code 95 = .ok (.iconst 0, 1) := by decide +kernel
theorem d_Pa_joinLabels_96 : decode prog_8_method_25_code 96 = .ok (.invokevirtual 68, 3) := by decide +kernel
theorem d_Pa_joinLabels_99 : decode prog_8_method_25_code 99 = .ok (.ireturn, 1) := by decide +kernel
theorem d_Pa_joinLabels_100 : decode prog_8_method_25_code 100 = .ok (.iinc 1 1, 3) := by decide +kernel
theorem d_Pa_joinLabels_103 : decode prog_8_method_25_code 103 = .ok (.goto (-101), 3) := by decide +kernel
theorem d_Pa_joinLabels_106 : decode prog_8_method_25_code 106 = .ok (.iconst 1, 1) := by decide +kernel
theorem d_Pa_joinLabels_107 : decode prog_8_method_25_code 107 = .ok (.ireturn, 1) := by decide +kernel
theorem d_Pa_read_0 : decode prog_8_method_3_code 0 = .ok (.aload_n 0, 1) := by decide +kernel
theorem d_Pa_read_1 : decode prog_8_method_3_code 1 = .ok (.aload_n 1, 1) := by decide +kernel
theorem d_Pa_read_2 : decode prog_8_method_3_code 2 = .ok (.aload_n 2, 1) := by decide +kernel
theorem d_Pa_read_3 : decode prog_8_method_3_code 3 = .ok (.invokevirtual 38, 3) := by decide +kernel
theorem d_Pa_read_6 : decode prog_8_method_3_code 6 = .ok (.iconst 0, 1) := by decide +kernel
theorem d_Pa_read_7 : decode prog_8_method_3_code 7 = .ok (.istore_n 3, 1) := by decide +kernel
theorem d_Pa_read_8 : decode prog_8_method_3_code 8 = .ok (.iload_n 3, 1) := by decide +kernel
theorem d_Pa_read_9 : decode prog_8_method_3_code 9 = .ok (.sipush 240, 3) := by decide +kernel
theorem d_Pa_read_12 : decode prog_8_method_3_code 12 = .ok (.if_icmp .gt 107, 3) := by decide +kernel
theorem d_Pa_read_15 : decode prog_8_method_3_code 15 = .ok (.aload_n 0, 1) := by decide +kernel
theorem d_Pa_read_16 : decode prog_8_method_3_code 16 = .ok (.getfield 12, 3) := by decide +kernel
theorem d_Pa_read_19 : decode prog_8_method_3_code 19 = .ok (.iconst 0, 1) := by decide +kernel
theorem d_Pa_read_20 : decode prog_8_method_3_code 20 = .ok (.invokevirtual 42, 3) := by decide +kernel
theorem d_Pa_read_23 : decode prog_8_method_3_code 23 = .ok (.iconst (-1), 1) := by decide +kernel
theorem d_Pa_read_24 : decode prog_8_method_3_code 24 = .ok (.if_icmp .eq 95, 3) := by decide +kernel
theorem d_Pa_read_27 : decode prog_8_method_3_code 27 = .ok (.aload_n 0, 1) := by decide +kernel
theorem d_Pa_read_28 : decode prog_8_method_3_code 28 = .ok (.getfield 12, 3) := by decide +kernel
theorem d_Pa_read_31 : decode prog_8_method_3_code 31 = .ok (.iconst 0, 1) := by decide +kernel
theorem d_Pa_read_32 : decode prog_8_method_3_code 32 = .ok (.invokevirtual 42, 3) := by decide +kernel
theorem d_Pa_read_35 : decode prog_8_method_3_code 35 = .ok (.istore 4, 2) := by decide +kernel
theorem d_Pa_read_37 : decode prog_8_method_3_code 37 = .ok (.iload 4, 2) := by decide +kernel
theorem d_Pa_read_39 : decode prog_8_method_3_code 39 = .ok (.bipush 32, 2) := by decide +kernel
theorem d_Pa_read_41 : decode prog_8_method_3_code 41 = .ok (.if_icmp .eq 17, 3) := by decide +kernel
theorem d_Pa_read_44 : decode prog_8_method_3_code 44 = .ok (.iload 4, 2) := by decide +kernel
theorem d_Pa_read_46 : decode prog_8_method_3_code 46 = .ok (.bipush 10, 2) := by decide +kernel
theorem d_Pa_read_48 : decode prog_8_method_3_code 48 = .ok (.if_icmp .eq 10, 3) := by decide +kernel
theorem d_Pa_read_51 : decode prog_8_method_3_code 51 = .ok (.iload 4, 2) := by decide +kernel
theorem d_Pa_read_53 : decode prog_8_method_3_code 53 = .ok (.bipush 59, 2) := by decide +kernel
theorem d_Pa_read_55 : decode prog_8_method_3_code 55 = .ok (.if_icmp .ne 19, 3) := by decide +kernel
theorem d_Pa_read_58 : decode prog_8_method_3_code 58 = .ok (.aload_n 0, 1) := by decide +kernel
theorem d_Pa_read_59 : decode prog_8_method_3_code 59 = .ok (.getfield 12, 3) := by decide +kernel
theorem d_Pa_read_62 : decode prog_8_method_3_code 62 = .ok (.dup, 1) := by decide +kernel
theorem d_Pa_read_63 : decode prog_8_method_3_code 63 = .ok (.getfield 46, 3) := by decide +kernel
theorem d_Pa_read_66 : decode prog_8_method_3_code 66 = .ok (.iconst 1, 1) := by decide +kernel
theorem d_Pa_read_67 : decode prog_8_method_3_code 67 = .ok (.iadd, 1) := by decide +kernel
theorem d_Pa_read_68 : decode prog_8_method_3_code 68 = .ok (.putfield 46, 3) := by decide +kernel
theorem d_Pa_read_71 : decode prog_8_method_3_code 71 = .ok (.goto 42, 3) := by decide +kernel
theorem d_Pa_read_74 : decode prog_8_method_3_code 74 = .ok (.iload 4, 2) := by decide +kernel
theorem d_Pa_read_76 : decode prog_8_method_3_code 76 = .ok (.bipush 125, 2) := by decide +kernel
theorem d_Pa_read_78 : decode prog_8_method_3_code 78 = .ok (.if_icmp .ne 12, 3) := by decide +kernel
theorem d_Pa_read_81 : decode prog_8_method_3_code 81 = .ok (.aload_n 0, 1) := by decide +kernel
theorem d_Pa_read_82 : decode prog_8_method_3_code 82 = .ok (.invokevirtual 49, 3) := by decide +kernel
theorem d_Pa_read_85 : decode prog_8_method_3_code 85 = .ok (.ifCond .ne 28, 3) := by decide +kernel
theorem d_Pa_read_88 : decode prog_8_method_3_code 88 = .ok (.iconst 0, 1) := by decide +kernel
theorem d_Pa_read_89 : decode prog_8_method_3_code 89 = .ok (.ireturn, 1) := by decide +kernel
theorem d_Pa_read_90 : decode prog_8_method_3_code 90 = .ok (.aload_n 0, 1) := by decide +kernel
theorem d_Pa_read_91 : decode prog_8_method_3_code 91 = .ok (.invokevirtual 53, 3) := by decide +kernel
theorem d_Pa_read_94 : decode prog_8_method_3_code 94 = .ok (.ifCond .eq 17, 3) := by decide +kernel
theorem d_Pa_read_97 : decode prog_8_method_3_code 97 = .ok (.aload_n 0, 1) := by decide +kernel
theorem d_Pa_read_98 : decode prog_8_method_3_code 98 = .ok (.invokevirtual 56, 3) := by decide +kernel
theorem d_Pa_read_101 : decode prog_8_method_3_code 101 = .ok (.ifCond .eq 10, 3) := by decide +kernel
theorem d_Pa_read_104 : decode prog_8_method_3_code 104 = .ok (.aload_n 0, 1) := by decide +kernel
theorem d_Pa_read_105 : decode prog_8_method_3_code 105 = .ok (.invokevirtual 59, 3) := by decide +kernel
theorem d_Pa_read_108 : decode prog_8_method_3_code 108 = .ok (.ifCond .ne 5, 3) := by decide +kernel
theorem d_Pa_read_111 : decode prog_8_method_3_code 111 = .ok (.iconst 0, 1) := by decide +kernel
theorem d_Pa_read_112 : decode prog_8_method_3_code 112 = .ok (.ireturn, 1) := by decide +kernel
theorem d_Pa_read_113 : decode prog_8_method_3_code 113 = .ok (.iinc 3 1, 3) := by decide +kernel
theorem d_Pa_read_116 : decode prog_8_method_3_code 116 = .ok (.goto (-108), 3) := by decide +kernel
theorem d_Pa_read_119 : decode prog_8_method_3_code 119 = .ok (.aload_n 0, 1) := by decide +kernel
theorem d_Pa_read_120 : decode prog_8_method_3_code 120 = .ok (.getfield 62, 3) := by decide +kernel
theorem d_Pa_read_123 : decode prog_8_method_3_code 123 = .ok (.ifCond .ne 10, 3) := by decide +kernel
theorem d_Pa_read_126 : decode prog_8_method_3_code 126 = .ok (.aload_n 0, 1) := by decide +kernel
theorem d_Pa_read_127 : decode prog_8_method_3_code 127 = .ok (.invokevirtual 65, 3) := by decide +kernel
theorem d_Pa_read_130 : decode prog_8_method_3_code 130 = .ok (.goto 11, 3) := by decide +kernel
theorem d_Pa_read_133 : decode prog_8_method_3_code 133 = .ok (.aload_n 0, 1) := by decide +kernel
theorem d_Pa_read_134 : decode prog_8_method_3_code 134 = .ok (.getfield 12, 3) := by decide +kernel
theorem d_Pa_read_137 : decode prog_8_method_3_code 137 = .ok (.iconst 0, 1) := by decide +kernel
theorem d_Pa_read_138 : decode prog_8_method_3_code 138 = .ok (.invokevirtual 68, 3) := by decide +kernel
theorem d_Pa_read_141 : decode prog_8_method_3_code 141 = .ok (.ireturn, 1) := by decide +kernel
