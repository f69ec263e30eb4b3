theorem d_Ed_readLine_0 : decode prog_5_method_6_code 0 = .ok (.aload_n 0, 1) := by decide +kernel
theorem d_Ed_readLine_1 : decode prog_5_method_6_code 1 = .ok (.getfield 43, 3) := by decide +kernel
theorem d_Ed_readLine_4 : decode prog_5_method_6_code 4 = .ok (.aload_n 0, 1) := by decide +kernel
theorem d_Ed_readLine_5 : decode prog_5_method_6_code 5 = .ok (.getfield 99, 3) := by decide +kernel
theorem d_Ed_readLine_8 : decode prog_5_method_6_code 8 = .ok (.aaload, 1) := by decide +kernel
theorem d_Ed_readLine_9 : decode prog_5_method_6_code 9 = .ok (.astore_n 1, 1) := by decide +kernel
theorem d_Ed_readLine_10 : decode prog_5_method_6_code 10 = .ok (.aload_n 0, 1) := by decide +kernel
theorem d_Ed_readLine_11 : decode prog_5_method_6_code 11 = .ok (.getfield 20, 3) := by decide +kernel
theorem d_Ed_readLine_14 : decode prog_5_method_6_code 14 = .ok (.aload_n 1, 1) := by decide +kernel
theorem d_Ed_readLine_15 : decode prog_5_method_6_code 15 = .ok (.iconst 0, 1) := by decide +kernel
theorem d_Ed_readLine_16 : decode prog_5_method_6_code 16 = .ok (.aload_n 1, 1) := by decide +kernel
theorem d_Ed_readLine_17 : decode prog_5_method_6_code 17 = .ok (.getfield 123, 3) := by decide +kernel
theorem d_Ed_readLine_20 : decode prog_5_method_6_code 20 = .ok (.invokevirtual 126, 3) := by decide +kernel
theorem d_Ed_readLine_23 : decode prog_5_method_6_code 23 = .ok (.aload_n 0, 1) := by decide +kernel
theorem d_Ed_readLine_24 : decode prog_5_method_6_code 24 = .ok (.dup, 1) := by decide +kernel
theorem d_Ed_readLine_25 : decode prog_5_method_6_code 25 = .ok (.getfield 99, 3) := by decide +kernel
theorem d_Ed_readLine_28 : decode prog_5_method_6_code 28 = .ok (.iconst 1, 1) := by decide +kernel
theorem d_Ed_readLine_29 : decode prog_5_method_6_code 29 = .ok (.iadd, 1) := by decide +kernel
theorem d_Ed_readLine_30 : decode prog_5_method_6_code 30 = .ok (.putfield 99, 3) := by decide +kernel
theorem d_Ed_readLine_33 : decode prog_5_method_6_code 33 = .ok (.return_, 1) := by decide +kernel
theorem d_Ed_beginCycle_0 : decode prog_5_method_5_code 0 = .ok (.aload_n 0, 1) := by decide +kernel
theorem d_Ed_beginCycle_1 : decode prog_5_method_5_code 1 = .ok (.dup, 1) := by decide +kernel
theorem d_Ed_beginCycle_2 : decode prog_5_method_5_code 2 = .ok (.getfield 102, 3) := by decide +kernel
theorem d_Ed_beginCycle_5 : decode prog_5_method_5_code 5 = .ok (.iconst 1, 1) := by decide +kernel
theorem d_Ed_beginCycle_6 : decode prog_5_method_5_code 6 = .ok (.iadd, 1) := by decide +kernel
theorem d_Ed_beginCycle_7 : decode prog_5_method_5_code 7 = .ok (.putfield 102, 3) := by decide +kernel
theorem d_Ed_beginCycle_10 : decode prog_5_method_5_code 10 = .ok (.aload_n 0, 1) := by decide +kernel
theorem d_Ed_beginCycle_11 : decode prog_5_method_5_code 11 = .ok (.iconst 0, 1) := by decide +kernel
theorem d_Ed_beginCycle_12 : decode prog_5_method_5_code 12 = .ok (.putfield 120, 3) := by decide +kernel
theorem d_Ed_beginCycle_15 : decode prog_5_method_5_code 15 = .ok (.aload_n 0, 1) := by decide +kernel
theorem d_Ed_beginCycle_16 : decode prog_5_method_5_code 16 = .ok (.iconst 0, 1) := by decide +kernel
theorem d_Ed_beginCycle_17 : decode prog_5_method_5_code 17 = .ok (.putfield 58, 3) := by decide +kernel
theorem d_Ed_beginCycle_20 : decode prog_5_method_5_code 20 = .ok (.return_, 1) := by decide +kernel
theorem d_Ed_beginLine_0 : decode prog_5_method_4_code 0 = .ok (.aload_n 0, 1) := by decide +kernel
theorem d_Ed_beginLine_1 : decode prog_5_method_4_code 1 = .ok (.getfield 99, 3) := by decide +kernel
theorem d_Ed_beginLine_4 : decode prog_5_method_4_code 4 = .ok (.aload_n 0, 1) := by decide +kernel
theorem d_Ed_beginLine_5 : decode prog_5_method_4_code 5 = .ok (.getfield 47, 3) := by decide +kernel
theorem d_Ed_beginLine_8 : decode prog_5_method_4_code 8 = .ok (.if_icmp .ne 9, 3) := by decide +kernel
theorem d_Ed_beginLine_11 : decode prog_5_method_4_code 11 = .ok (.aload_n 0, 1) := by decide +kernel
theorem d_Ed_beginLine_12 : decode prog_5_method_4_code 12 = .ok (.iconst 1, 1) := by decide +kernel
theorem d_Ed_beginLine_13 : decode prog_5_method_4_code 13 = .ok (.putfield 54, 3) := by decide +kernel
theorem d_Ed_beginLine_16 : decode prog_5_method_4_code 16 = .ok (.return_, 1) := by decide +kernel
theorem d_Ed_beginLine_17 : decode prog_5_method_4_code 17 = .ok (.aload_n 0, 1) := by decide +kernel
theorem d_Ed_beginLine_18 : decode prog_5_method_4_code 18 = .ok (.getfield 20, 3) := by decide +kernel
theorem d_Ed_beginLine_21 : decode prog_5_method_4_code 21 = .ok (.invokevirtual 96, 3) := by decide +kernel
theorem d_Ed_beginLine_24 : decode prog_5_method_4_code 24 = .ok (.aload_n 0, 1) := by decide +kernel
theorem d_Ed_beginLine_25 : decode prog_5_method_4_code 25 = .ok (.invokevirtual 114, 3) := by decide +kernel
theorem d_Ed_beginLine_28 : decode prog_5_method_4_code 28 = .ok (.aload_n 0, 1) := by decide +kernel
theorem d_Ed_beginLine_29 : decode prog_5_method_4_code 29 = .ok (.invokevirtual 117, 3) := by decide +kernel
theorem d_Ed_beginLine_32 : decode prog_5_method_4_code 32 = .ok (.return_, 1) := by decide +kernel
theorem d_Ed_begin_0 : decode prog_5_method_3_code 0 = .ok (.aload_n 0, 1) := by decide +kernel
theorem d_Ed_begin_1 : decode prog_5_method_3_code 1 = .ok (.getfield 14, 3) := by decide +kernel
theorem d_Ed_begin_4 : decode prog_5_method_3_code 4 = .ok (.invokevirtual 96, 3) := by decide +kernel
theorem d_Ed_begin_7 : decode prog_5_method_3_code 7 = .ok (.aload_n 0, 1) := by decide +kernel
theorem d_Ed_begin_8 : decode prog_5_method_3_code 8 = .ok (.getfield 20, 3) := by decide +kernel
theorem d_Ed_begin_11 : decode prog_5_method_3_code 11 = .ok (.invokevirtual 96, 3) := by decide +kernel
theorem d_Ed_begin_14 : decode prog_5_method_3_code 14 = .ok (.aload_n 0, 1) := by decide +kernel
theorem d_Ed_begin_15 : decode prog_5_method_3_code 15 = .ok (.getfield 23, 3) := by decide +kernel
theorem d_Ed_begin_18 : decode prog_5_method_3_code 18 = .ok (.invokevirtual 96, 3) := by decide +kernel
theorem d_Ed_begin_21 : decode prog_5_method_3_code 21 = .ok (.aload_n 0, 1) := by decide +kernel
theorem d_Ed_begin_22 : decode prog_5_method_3_code 22 = .ok (.getfield 26, 3) := by decide +kernel
theorem d_Ed_begin_25 : decode prog_5_method_3_code 25 = .ok (.invokevirtual 96, 3) := by decide +kernel
theorem d_Ed_begin_28 : decode prog_5_method_3_code 28 = .ok (.aload_n 0, 1) := by decide +kernel
theorem d_Ed_begin_29 : decode prog_5_method_3_code 29 = .ok (.iconst 0, 1) := by decide +kernel
theorem d_Ed_begin_30 : decode prog_5_method_3_code 30 = .ok (.putfield 99, 3) := by decide +kernel
theorem d_Ed_begin_33 : decode prog_5_method_3_code 33 = .ok (.aload_n 0, 1) := by decide +kernel
theorem d_Ed_begin_34 : decode prog_5_method_3_code 34 = .ok (.iconst 0, 1) := by decide +kernel
theorem d_Ed_begin_35 : decode prog_5_method_3_code 35 = .ok (.putfield 70, 3) := by decide +kernel
theorem d_Ed_begin_38 : decode prog_5_method_3_code 38 = .ok (.aload_n 0, 1) := by decide +kernel
theorem d_Ed_begin_39 : decode prog_5_method_3_code 39 = .ok (.iconst 0, 1) := by decide +kernel
theorem d_Ed_begin_40 : decode prog_5_method_3_code 40 = .ok (.putfield 102, 3) := by decide +kernel
theorem d_Ed_begin_43 : decode prog_5_method_3_code 43 = .ok (.aload_n 0, 1) := by decide +kernel
theorem d_Ed_begin_44 : decode prog_5_method_3_code 44 = .ok (.iconst 0, 1) := by decide +kernel
theorem d_Ed_begin_45 : decode prog_5_method_3_code 45 = .ok (.putfield 105, 3) := by decide +kernel
theorem d_Ed_begin_48 : decode prog_5_method_3_code 48 = .ok (.aload_n 0, 1) := by decide +kernel
theorem d_Ed_begin_49 : decode prog_5_method_3_code 49 = .ok (.iconst 0, 1) := by decide +kernel
theorem d_Ed_begin_50 : decode prog_5_method_3_code 50 = .ok (.putfield 54, 3) := by decide +kernel
theorem d_Ed_begin_53 : decode prog_5_method_3_code 53 = .ok (.iconst 0, 1) := by decide +kernel
theorem d_Ed_begin_54 : decode prog_5_method_3_code 54 = .ok (.istore_n 1, 1) := by decide +kernel
theorem d_Ed_begin_55 : decode prog_5_method_3_code 55 = .ok (.iload_n 1, 1) := by decide +kernel
theorem d_Ed_begin_56 : decode prog_5_method_3_code 56 = .ok (.aload_n 0, 1) := by decide +kernel
theorem d_Ed_begin_57 : decode prog_5_method_3_code 57 = .ok (.getfield 39, 3) := by decide +kernel
theorem d_Ed_begin_60 : decode prog_5_method_3_code 60 = .ok (.getfield 61, 3) := by decide +kernel
theorem d_Ed_begin_63 : decode prog_5_method_3_code 63 = .ok (.if_icmp .ge 22, 3) := by decide +kernel
theorem d_Ed_begin_66 : decode prog_5_method_3_code 66 = .ok (.aload_n 0, 1) := by decide +kernel
theorem d_Ed_begin_67 : decode prog_5_method_3_code 67 = .ok (.getfield 39, 3) := by decide +kernel
theorem d_Ed_begin_70 : decode prog_5_method_3_code 70 = .ok (.getfield 76, 3) := by decide +kernel
theorem d_Ed_begin_73 : decode prog_5_method_3_code 73 = .ok (.iload_n 1, 1) := by decide +kernel
theorem d_Ed_begin_74 : decode prog_5_method_3_code 74 = .ok (.aaload, 1) := by decide +kernel
theorem d_Ed_begin_75 : decode prog_5_method_3_code 75 = .ok (.iconst 0, 1) := by decide +kernel
theorem d_Ed_begin_76 : decode prog_5_method_3_code 76 = .ok (.putfield 108, 3) := by decide +kernel
theorem d_Ed_begin_79 : decode prog_5_method_3_code 79 = .ok (.iinc 1 1, 3) := by decide +kernel
theorem d_Ed_begin_82 : decode prog_5_method_3_code 82 = .ok (.goto (-27), 3) := by decide +kernel
theorem d_Ed_begin_85 : decode prog_5_method_3_code 85 = .ok (.aload_n 0, 1) := by decide +kernel
theorem d_Ed_begin_86 : decode prog_5_method_3_code 86 = .ok (.invokevirtual 111, 3) := by decide +kernel
theorem d_Ed_begin_89 : decode prog_5_method_3_code 89 = .ok (.return_, 1) := by decide +kernel
theorem d_Ed_fits_0 : decode prog_5_method_13_code 0 = .ok (.aload_n 1, 1) := by decide +kernel
theorem d_Ed_fits_1 : decode prog_5_method_13_code 1 = .ok (.getfield 173, 3) := by decide +kernel
theorem d_Ed_fits_4 : decode prog_5_method_13_code 4 = .ok (.lookupswitch 62 #[(0, 28), (1, 45)], 28) := by decide +kernel
theorem d_Ed_fits_32 : decode prog_5_method_13_code 32 = .ok (.aload_n 0, 1) := by decide +kernel
theorem d_Ed_fits_33 : decode prog_5_method_13_code 33 = .ok (.getfield 99, 3) := by decide +kernel
theorem d_Ed_fits_36 : decode prog_5_method_13_code 36 = .ok (.aload_n 1, 1) := by decide +kernel
theorem d_Ed_fits_37 : decode prog_5_method_13_code 37 = .ok (.getfield 176, 3) := by decide +kernel
theorem d_Ed_fits_40 : decode prog_5_method_13_code 40 = .ok (.if_icmp .ne 7, 3) := by decide +kernel
theorem d_Ed_fits_43 : decode prog_5_method_13_code 43 = .ok (.iconst 1, 1) := by decide +kernel
theorem d_Ed_fits_44 : decode prog_5_method_13_code 44 = .ok (.goto 4, 3) := by decide +kernel
theorem d_Ed_fits_47 : decode prog_5_method_13_code 47 = .ok (.iconst 0, 1) := by decide +kernel
theorem d_Ed_fits_48 : decode prog_5_method_13_code 48 = .ok (.ireturn, 1) := by decide +kernel
theorem d_Ed_fits_49 : decode prog_5_method_13_code 49 = .ok (.aload_n 0, 1) := by decide +kernel
theorem d_Ed_fits_50 : decode prog_5_method_13_code 50 = .ok (.getfield 99, 3) := by decide +kernel
theorem d_Ed_fits_53 : decode prog_5_method_13_code 53 = .ok (.aload_n 0, 1) := by decide +kernel
theorem d_Ed_fits_54 : decode prog_5_method_13_code 54 = .ok (.getfield 47, 3) := by decide +kernel
theorem d_Ed_fits_57 : decode prog_5_method_13_code 57 = .ok (.if_icmp .ne 7, 3) := by decide +kernel
theorem d_Ed_fits_60 : decode prog_5_method_13_code 60 = .ok (.iconst 1, 1) := by decide +kernel
theorem d_Ed_fits_61 : decode prog_5_method_13_code 61 = .ok (.goto 4, 3) := by decide +kernel
theorem d_Ed_fits_64 : decode prog_5_method_13_code 64 = .ok (.iconst 0, 1) := by decide +kernel
theorem d_Ed_fits_65 : decode prog_5_method_13_code 65 = .ok (.ireturn, 1) := by decide +kernel
theorem d_Ed_fits_66 : decode prog_5_method_13_code 66 = .ok (.aload_n 0, 1) := by decide +kernel
theorem d_Ed_fits_67 : decode prog_5_method_13_code 67 = .ok (.getfield 32, 3) := by decide +kernel
theorem d_Ed_fits_70 : decode prog_5_method_13_code 70 = .ok (.aload_n 0, 1) := by decide +kernel
theorem d_Ed_fits_71 : decode prog_5_method_13_code 71 = .ok (.getfield 39, 3) := by decide +kernel
theorem d_Ed_fits_74 : decode prog_5_method_13_code 74 = .ok (.getfield 179, 3) := by decide +kernel
theorem d_Ed_fits_77 : decode prog_5_method_13_code 77 = .ok (.aload_n 1, 1) := by decide +kernel
theorem d_Ed_fits_78 : decode prog_5_method_13_code 78 = .ok (.getfield 183, 3) := by decide +kernel
theorem d_Ed_fits_81 : decode prog_5_method_13_code 81 = .ok (.aload_n 0, 1) := by decide +kernel
theorem d_Ed_fits_82 : decode prog_5_method_13_code 82 = .ok (.getfield 20, 3) := by decide +kernel
theorem d_Ed_fits_85 : decode prog_5_method_13_code 85 = .ok (.iconst 0, 1) := by decide +kernel
theorem d_Ed_fits_86 : decode prog_5_method_13_code 86 = .ok (.invokevirtual 187, 3) := by decide +kernel
theorem d_Ed_fits_89 : decode prog_5_method_13_code 89 = .ok (.ireturn, 1) := by decide +kernel
theorem d_Ed_isReached_0 : decode prog_5_method_12_code 0 = .ok (.aload_n 1, 1) := by decide +kernel
theorem d_Ed_isReached_1 : decode prog_5_method_12_code 1 = .ok (.getfield 173, 3) := by decide +kernel
theorem d_Ed_isReached_4 : decode prog_5_method_12_code 4 = .ok (.ifCond .ne 18, 3) := by decide +kernel
theorem d_Ed_isReached_7 : decode prog_5_method_12_code 7 = .ok (.aload_n 0, 1) := by decide +kernel
theorem d_Ed_isReached_8 : decode prog_5_method_12_code 8 = .ok (.getfield 99, 3) := by decide +kernel
theorem d_Ed_isReached_11 : decode prog_5_method_12_code 11 = .ok (.aload_n 1, 1) := by decide +kernel
theorem d_Ed_isReached_12 : decode prog_5_method_12_code 12 = .ok (.getfield 176, 3) := by decide +kernel
theorem d_Ed_isReached_15 : decode prog_5_method_12_code 15 = .ok (.if_icmp .lt 7, 3) := by decide +kernel
theorem d_Ed_isReached_18 : decode prog_5_method_12_code 18 = .ok (.iconst 1, 1) := by decide +kernel
theorem d_Ed_isReached_19 : decode prog_5_method_12_code 19 = .ok (.goto 4, 3) := by decide +kernel
theorem d_Ed_isReached_22 : decode prog_5_method_12_code 22 = .ok (.iconst 0, 1) := by decide +kernel
theorem d_Ed_isReached_23 : decode prog_5_method_12_code 23 = .ok (.ireturn, 1) := by decide +kernel
theorem d_Ed_isDone_0 : decode prog_5_method_11_code 0 = .ok (.iconst 1, 1) := by decide +kernel
theorem d_Ed_isDone_1 : decode prog_5_method_11_code 1 = .ok (.istore_n 2, 1) := by decide +kernel
theorem d_Ed_isDone_2 : decode prog_5_method_11_code 2 = .ok (.aload_n 1, 1) := by decide +kernel
theorem d_Ed_isDone_3 : decode prog_5_method_11_code 3 = .ok (.getfield 150, 3) := by decide +kernel
theorem d_Ed_isDone_6 : decode prog_5_method_11_code 6 = .ok (.iconst 1, 1) := by decide +kernel
theorem d_Ed_isDone_7 : decode prog_5_method_11_code 7 = .ok (.if_icmp .ne 15, 3) := by decide +kernel
theorem d_Ed_isDone_10 : decode prog_5_method_11_code 10 = .ok (.aload_n 0, 1) := by decide +kernel
theorem d_Ed_isDone_11 : decode prog_5_method_11_code 11 = .ok (.aload_n 1, 1) := by decide +kernel
theorem d_Ed_isDone_12 : decode prog_5_method_11_code 12 = .ok (.getfield 153, 3) := by decide +kernel
theorem d_Ed_isDone_15 : decode prog_5_method_11_code 15 = .ok (.invokevirtual 157, 3) := by decide +kernel
theorem d_Ed_isDone_18 : decode prog_5_method_11_code 18 = .ok (.istore_n 2, 1) := by decide +kernel
theorem d_Ed_isDone_19 : decode prog_5_method_11_code 19 = .ok (.goto 117, 3) := by decide +kernel
theorem d_Ed_isDone_22 : decode prog_5_method_11_code 22 = .ok (.aload_n 1, 1) := by decide +kernel
theorem d_Ed_isDone_23 : decode prog_5_method_11_code 23 = .ok (.getfield 150, 3) := by decide +kernel
theorem d_Ed_isDone_26 : decode prog_5_method_11_code 26 = .ok (.iconst 2, 1) := by decide +kernel
theorem d_Ed_isDone_27 : decode prog_5_method_11_code 27 = .ok (.if_icmp .ne 60, 3) := by decide +kernel
theorem d_Ed_isDone_30 : decode prog_5_method_11_code 30 = .ok (.aload_n 1, 1) := by decide +kernel
theorem d_Ed_isDone_31 : decode prog_5_method_11_code 31 = .ok (.getfield 108, 3) := by decide +kernel
theorem d_Ed_isDone_34 : decode prog_5_method_11_code 34 = .ok (.ifCond .eq 53, 3) := by decide +kernel
theorem d_Ed_isDone_37 : decode prog_5_method_11_code 37 = .ok (.aload_n 0, 1) := by decide +kernel
theorem d_Ed_isDone_38 : decode prog_5_method_11_code 38 = .ok (.aload_n 0, 1) := by decide +kernel
theorem d_Ed_isDone_39 : decode prog_5_method_11_code 39 = .ok (.aload_n 1, 1) := by decide +kernel
theorem d_Ed_isDone_40 : decode prog_5_method_11_code 40 = .ok (.getfield 161, 3) := by decide +kernel
theorem d_Ed_isDone_43 : decode prog_5_method_11_code 43 = .ok (.invokevirtual 164, 3) := by decide +kernel
theorem d_Ed_isDone_46 : decode prog_5_method_11_code 46 = .ok (.ifCond .ne 14, 3) := by decide +kernel
theorem d_Ed_isDone_49 : decode prog_5_method_11_code 49 = .ok (.aload_n 0, 1) := by decide +kernel
theorem d_Ed_isDone_50 : decode prog_5_method_11_code 50 = .ok (.aload_n 1, 1) := by decide +kernel
theorem d_Ed_isDone_51 : decode prog_5_method_11_code 51 = .ok (.getfield 161, 3) := by decide +kernel
theorem d_Ed_isDone_54 : decode prog_5_method_11_code 54 = .ok (.invokevirtual 157, 3) := by decide +kernel
theorem d_Ed_isDone_57 : decode prog_5_method_11_code 57 = .ok (.ifCond .eq 7, 3) := by decide +kernel
theorem d_Ed_isDone_60 : decode prog_5_method_11_code 60 = .ok (.iconst 1, 1) := by decide +kernel
theorem d_Ed_isDone_61 : decode prog_5_method_11_code 61 = .ok (.goto 4, 3) := by decide +kernel
theorem d_Ed_isDone_64 : decode prog_5_method_11_code 64 = .ok (.iconst 0, 1) := by decide +kernel
theorem d_Ed_isDone_65 : decode prog_5_method_11_code 65 = .ok (.putfield 167, 3) := by decide +kernel
theorem d_Ed_isDone_68 : decode prog_5_method_11_code 68 = .ok (.aload_n 1, 1) := by decide +kernel
theorem d_Ed_isDone_69 : decode prog_5_method_11_code 69 = .ok (.aload_n 0, 1) := by decide +kernel
theorem d_Ed_isDone_70 : decode prog_5_method_11_code 70 = .ok (.getfield 167, 3) := by decide +kernel
theorem d_Ed_isDone_73 : decode prog_5_method_11_code 73 = .ok (.ifCond .ne 7, 3) := by decide +kernel
theorem d_Ed_isDone_76 : decode prog_5_method_11_code 76 = .ok (.iconst 1, 1) := by decide +kernel
theorem d_Ed_isDone_77 : decode prog_5_method_11_code 77 = .ok (.goto 4, 3) := by decide +kernel
theorem d_Ed_isDone_80 : decode prog_5_method_11_code 80 = .ok (.iconst 0, 1) := by decide +kernel
theorem d_Ed_isDone_81 : decode prog_5_method_11_code 81 = .ok (.putfield 108, 3) := by decide +kernel
theorem d_Ed_isDone_84 : decode prog_5_method_11_code 84 = .ok (.goto 52, 3) := by decide +kernel
theorem d_Ed_isDone_87 : decode prog_5_method_11_code 87 = .ok (.aload_n 1, 1) := by decide +kernel
theorem d_Ed_isDone_88 : decode prog_5_method_11_code 88 = .ok (.getfield 150, 3) := by decide +kernel
theorem d_Ed_isDone_91 : decode prog_5_method_11_code 91 = .ok (.iconst 2, 1) := by decide +kernel
theorem d_Ed_isDone_92 : decode prog_5_method_11_code 92 = .ok (.if_icmp .ne 44, 3) := by decide +kernel
theorem d_Ed_isDone_95 : decode prog_5_method_11_code 95 = .ok (.aload_n 0, 1) := by decide +kernel
theorem d_Ed_isDone_96 : decode prog_5_method_11_code 96 = .ok (.aload_n 1, 1) := by decide +kernel
theorem d_Ed_isDone_97 : decode prog_5_method_11_code 97 = .ok (.getfield 153, 3) := by decide +kernel
theorem d_Ed_isDone_100 : decode prog_5_method_11_code 100 = .ok (.invokevirtual 157, 3) := by decide +kernel
theorem d_Ed_isDone_103 : decode prog_5_method_11_code 103 = .ok (.istore_n 2, 1) := by decide +kernel
theorem d_Ed_isDone_104 : decode prog_5_method_11_code 104 = .ok (.aload_n 0, 1) := by decide +kernel
theorem d_Ed_isDone_105 : decode prog_5_method_11_code 105 = .ok (.aload_n 0, 1) := by decide +kernel
theorem d_Ed_isDone_106 : decode prog_5_method_11_code 106 = .ok (.aload_n 1, 1) := by decide +kernel
theorem d_Ed_isDone_107 : decode prog_5_method_11_code 107 = .ok (.getfield 161, 3) := by decide +kernel
theorem d_Ed_isDone_110 : decode prog_5_method_11_code 110 = .ok (.invokevirtual 164, 3) := by decide +kernel
theorem d_Ed_isDone_113 : decode prog_5_method_11_code 113 = .ok (.putfield 167, 3) := by decide +kernel
theorem d_Ed_isDone_116 : decode prog_5_method_11_code 116 = .ok (.aload_n 1, 1) := by decide +kernel
theorem d_Ed_isDone_117 : decode prog_5_method_11_code 117 = .ok (.iload_n 2, 1) := by decide +kernel
theorem d_Ed_isDone_118 : decode prog_5_method_11_code 118 = .ok (.ifCond .eq 14, 3) := by decide +kernel
theorem d_Ed_isDone_121 : decode prog_5_method_11_code 121 = .ok (.aload_n 0, 1) := by decide +kernel
theorem d_Ed_isDone_122 : decode prog_5_method_11_code 122 = .ok (.getfield 167, 3) := by decide +kernel
theorem d_Ed_isDone_125 : decode prog_5_method_11_code 125 = .ok (.ifCond .ne 7, 3) := by decide +kernel
theorem d_Ed_isDone_128 : decode prog_5_method_11_code 128 = .ok (.iconst 1, 1) := by decide +kernel
theorem d_Ed_isDone_129 : decode prog_5_method_11_code 129 = .ok (.goto 4, 3) := by decide +kernel
theorem d_Ed_isDone_132 : decode prog_5_method_11_code 132 = .ok (.iconst 0, 1) := by decide +kernel
theorem d_Ed_isDone_133 : decode prog_5_method_11_code 133 = .ok (.putfield 108, 3) := by decide +kernel
theorem d_Ed_isDone_136 : decode prog_5_method_11_code 136 = .ok (.iload_n 2, 1) := by decide +kernel
theorem d_Ed_isDone_137 : decode prog_5_method_11_code 137 = .ok (.aload_n 1, 1) := by decide +kernel
theorem d_Ed_isDone_138 : decode prog_5_method_11_code 138 = .ok (.getfield 170, 3) := by decide +kernel
theorem d_Ed_isDone_141 : decode prog_5_method_11_code 141 = .ok (.if_icmp .eq 7, 3) := by decide +kernel
theorem d_Ed_isDone_144 : decode prog_5_method_11_code 144 = .ok (.iconst 1, 1) := by decide +kernel
theorem d_Ed_isDone_145 : decode prog_5_method_11_code 145 = .ok (.goto 4, 3) := by decide +kernel
theorem d_Ed_isDone_148 : decode prog_5_method_11_code 148 = .ok (.iconst 0, 1) := by decide +kernel
theorem d_Ed_isDone_149 : decode prog_5_method_11_code 149 = .ok (.ireturn, 1) := by decide +kernel
theorem d_Ed_branchIfReplaced_0 : decode prog_5_method_15_code 0 = .ok (.aload_n 0, 1) := by decide +kernel
theorem d_Ed_branchIfReplaced_1 : decode prog_5_method_15_code 1 = .ok (.getfield 120, 3) := by decide +kernel
theorem d_Ed_branchIfReplaced_4 : decode prog_5_method_15_code 4 = .ok (.ifCond .eq 16, 3) := by decide +kernel
theorem d_Ed_branchIfReplaced_7 : decode prog_5_method_15_code 7 = .ok (.aload_n 0, 1) := by decide +kernel
theorem d_Ed_branchIfReplaced_8 : decode prog_5_method_15_code 8 = .ok (.iconst 0, 1) := by decide +kernel
theorem d_Ed_branchIfReplaced_9 : decode prog_5_method_15_code 9 = .ok (.putfield 120, 3) := by decide +kernel
theorem d_Ed_branchIfReplaced_12 : decode prog_5_method_15_code 12 = .ok (.aload_n 0, 1) := by decide +kernel
theorem d_Ed_branchIfReplaced_13 : decode prog_5_method_15_code 13 = .ok (.aload_n 1, 1) := by decide +kernel
theorem d_Ed_branchIfReplaced_14 : decode prog_5_method_15_code 14 = .ok (.getfield 93, 3) := by decide +kernel
theorem d_Ed_branchIfReplaced_17 : decode prog_5_method_15_code 17 = .ok (.putfield 58, 3) := by decide +kernel
theorem d_Ed_branchIfReplaced_20 : decode prog_5_method_15_code 20 = .ok (.return_, 1) := by decide +kernel
theorem d_Ed_exchange_0 : decode prog_5_method_25_code 0 = .ok (.iconst 0, 1) := by decide +kernel
theorem d_Ed_exchange_1 : decode prog_5_method_25_code 1 = .ok (.istore_n 2, 1) := by decide +kernel
theorem d_Ed_exchange_2 : decode prog_5_method_25_code 2 = .ok (.iload_n 2, 1) := by decide +kernel
theorem d_Ed_exchange_3 : decode prog_5_method_25_code 3 = .ok (.aload_n 0, 1) := by decide +kernel
theorem d_Ed_exchange_4 : decode prog_5_method_25_code 4 = .ok (.getfield 20, 3) := by decide +kernel
theorem d_Ed_exchange_7 : decode prog_5_method_25_code 7 = .ok (.getfield 123, 3) := by decide +kernel
theorem d_Ed_exchange_10 : decode prog_5_method_25_code 10 = .ok (.if_icmp .ge 90, 3) := by decide +kernel
theorem d_Ed_exchange_13 : decode prog_5_method_25_code 13 = .ok (.aload_n 1, 1) := by decide +kernel
theorem d_Ed_exchange_14 : decode prog_5_method_25_code 14 = .ok (.getfield 206, 3) := by decide +kernel
theorem d_Ed_exchange_17 : decode prog_5_method_25_code 17 = .ok (.istore_n 3, 1) := by decide +kernel
theorem d_Ed_exchange_18 : decode prog_5_method_25_code 18 = .ok (.iload_n 3, 1) := by decide +kernel
theorem d_Ed_exchange_19 : decode prog_5_method_25_code 19 = .ok (.aload_n 1, 1) := by decide +kernel
theorem d_Ed_exchange_20 : decode prog_5_method_25_code 20 = .ok (.getfield 209, 3) := by decide +kernel
theorem d_Ed_exchange_23 : decode prog_5_method_25_code 23 = .ok (.if_icmp .ge 32, 3) := by decide +kernel
theorem d_Ed_exchange_26 : decode prog_5_method_25_code 26 = .ok (.aload_n 0, 1) := by decide +kernel
theorem d_Ed_exchange_27 : decode prog_5_method_25_code 27 = .ok (.getfield 39, 3) := by decide +kernel
theorem d_Ed_exchange_30 : decode prog_5_method_25_code 30 = .ok (.getfield 203, 3) := by decide +kernel
theorem d_Ed_exchange_33 : decode prog_5_method_25_code 33 = .ok (.iload_n 3, 1) := by decide +kernel
theorem d_Ed_exchange_34 : decode prog_5_method_25_code 34 = .ok (.invokevirtual 247, 3) := by decide +kernel
theorem d_Ed_exchange_37 : decode prog_5_method_25_code 37 = .ok (.aload_n 0, 1) := by decide +kernel
theorem d_Ed_exchange_38 : decode prog_5_method_25_code 38 = .ok (.getfield 20, 3) := by decide +kernel
theorem d_Ed_exchange_41 : decode prog_5_method_25_code 41 = .ok (.getfield 146, 3) := by decide +kernel
theorem d_Ed_exchange_44 : decode prog_5_method_25_code 44 = .ok (.iload_n 2, 1) := by decide +kernel
theorem d_Ed_exchange_45 : decode prog_5_method_25_code 45 = .ok (.caload, 1) := by decide +kernel
theorem d_Ed_exchange_46 : decode prog_5_method_25_code 46 = .ok (.if_icmp .eq 9, 3) := by decide +kernel
theorem d_Ed_exchange_49 : decode prog_5_method_25_code 49 = .ok (.iinc 3 1, 3) := by decide +kernel
theorem d_Ed_exchange_52 : decode prog_5_method_25_code 52 = .ok (.goto (-34), 3) := by decide +kernel
theorem d_Ed_exchange_55 : decode prog_5_method_25_code 55 = .ok (.iload_n 3, 1) := by decide +kernel
theorem d_Ed_exchange_56 : decode prog_5_method_25_code 56 = .ok (.aload_n 1, 1) := by decide +kernel
theorem d_Ed_exchange_57 : decode prog_5_method_25_code 57 = .ok (.getfield 209, 3) := by decide +kernel
theorem d_Ed_exchange_60 : decode prog_5_method_25_code 60 = .ok (.if_icmp .ge 34, 3) := by decide +kernel
theorem d_Ed_exchange_63 : decode prog_5_method_25_code 63 = .ok (.aload_n 0, 1) := by decide +kernel
theorem d_Ed_exchange_64 : decode prog_5_method_25_code 64 = .ok (.getfield 20, 3) := by decide +kernel
theorem d_Ed_exchange_67 : decode prog_5_method_25_code 67 = .ok (.getfield 146, 3) := by decide +kernel
theorem d_Ed_exchange_70 : decode prog_5_method_25_code 70 = .ok (.iload_n 2, 1) := by decide +kernel
theorem d_Ed_exchange_71 : decode prog_5_method_25_code 71 = .ok (.aload_n 0, 1) := by decide +kernel
theorem d_Ed_exchange_72 : decode prog_5_method_25_code 72 = .ok (.getfield 39, 3) := by decide +kernel
theorem d_Ed_exchange_75 : decode prog_5_method_25_code 75 = .ok (.getfield 203, 3) := by decide +kernel
theorem d_Ed_exchange_78 : decode prog_5_method_25_code 78 = .ok (.aload_n 1, 1) := by decide +kernel
theorem d_Ed_exchange_79 : decode prog_5_method_25_code 79 = .ok (.getfield 250, 3) := by decide +kernel
theorem d_Ed_exchange_82 : decode prog_5_method_25_code 82 = .ok (.iload_n 3, 1) := by decide +kernel
theorem d_Ed_exchange_83 : decode prog_5_method_25_code 83 = .ok (.iadd, 1) := by decide +kernel
theorem d_Ed_exchange_84 : decode prog_5_method_25_code 84 = .ok (.aload_n 1, 1) := by decide +kernel
theorem d_Ed_exchange_85 : decode prog_5_method_25_code 85 = .ok (.getfield 206, 3) := by decide +kernel
theorem d_Ed_exchange_88 : decode prog_5_method_25_code 88 = .ok (.isub, 1) := by decide +kernel
theorem d_Ed_exchange_89 : decode prog_5_method_25_code 89 = .ok (.invokevirtual 247, 3) := by decide +kernel
theorem d_Ed_exchange_92 : decode prog_5_method_25_code 92 = .ok (.i2c, 1) := by decide +kernel
theorem d_Ed_exchange_93 : decode prog_5_method_25_code 93 = .ok (.castore, 1) := by decide +kernel
theorem d_Ed_exchange_94 : decode prog_5_method_25_code 94 = .ok (.iinc 2 1, 3) := by decide +kernel
theorem d_Ed_exchange_97 : decode prog_5_method_25_code 97 = .ok (.goto (-95), 3) := by decide +kernel
theorem d_Ed_exchange_100 : decode prog_5_method_25_code 100 = .ok (.return_, 1) := by decide +kernel
theorem d_Ed_copy_0 : decode prog_5_method_21_code 0 = .ok (.aload_n 2, 1) := by decide +kernel
theorem d_Ed_copy_1 : decode prog_5_method_21_code 1 = .ok (.invokevirtual 96, 3) := by decide +kernel
theorem d_Ed_copy_4 : decode prog_5_method_21_code 4 = .ok (.aload_n 2, 1) := by decide +kernel
theorem d_Ed_copy_5 : decode prog_5_method_21_code 5 = .ok (.aload_n 1, 1) := by decide +kernel
theorem d_Ed_copy_6 : decode prog_5_method_21_code 6 = .ok (.iconst 0, 1) := by decide +kernel
theorem d_Ed_copy_7 : decode prog_5_method_21_code 7 = .ok (.aload_n 1, 1) := by decide +kernel
theorem d_Ed_copy_8 : decode prog_5_method_21_code 8 = .ok (.getfield 123, 3) := by decide +kernel
theorem d_Ed_copy_11 : decode prog_5_method_21_code 11 = .ok (.invokevirtual 126, 3) := by decide +kernel
theorem d_Ed_copy_14 : decode prog_5_method_21_code 14 = .ok (.return_, 1) := by decide +kernel
theorem d_Ed_swap_0 : decode prog_5_method_23_code 0 = .ok (.aload_n 0, 1) := by decide +kernel
theorem d_Ed_swap_1 : decode prog_5_method_23_code 1 = .ok (.getfield 20, 3) := by decide +kernel
theorem d_Ed_swap_4 : decode prog_5_method_23_code 4 = .ok (.astore_n 1, 1) := by decide +kernel
theorem d_Ed_swap_5 : decode prog_5_method_23_code 5 = .ok (.aload_n 0, 1) := by decide +kernel
theorem d_Ed_swap_6 : decode prog_5_method_23_code 6 = .ok (.aload_n 0, 1) := by decide +kernel
theorem d_Ed_swap_7 : decode prog_5_method_23_code 7 = .ok (.getfield 23, 3) := by decide +kernel
theorem d_Ed_swap_10 : decode prog_5_method_23_code 10 = .ok (.putfield 20, 3) := by decide +kernel
theorem d_Ed_swap_13 : decode prog_5_method_23_code 13 = .ok (.aload_n 0, 1) := by decide +kernel
theorem d_Ed_swap_14 : decode prog_5_method_23_code 14 = .ok (.aload_n 1, 1) := by decide +kernel
theorem d_Ed_swap_15 : decode prog_5_method_23_code 15 = .ok (.putfield 23, 3) := by decide +kernel
theorem d_Ed_swap_18 : decode prog_5_method_23_code 18 = .ok (.return_, 1) := by decide +kernel
