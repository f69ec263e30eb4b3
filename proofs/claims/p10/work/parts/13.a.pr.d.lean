theorem d_Pr_begin_0 : decode prog_10_method_3_code 0 = .ok (.aload_n 0, 1) := by decide +kernel
theorem d_Pr_begin_1 : decode prog_10_method_3_code 1 = .ok (.aload_n 1, 1) := by decide +kernel
theorem d_Pr_begin_2 : decode prog_10_method_3_code 2 = .ok (.putfield 58, 3) := by decide +kernel
theorem d_Pr_begin_5 : decode prog_10_method_3_code 5 = .ok (.aload_n 0, 1) := by decide +kernel
theorem d_Pr_begin_6 : decode prog_10_method_3_code 6 = .ok (.aload_n 2, 1) := by decide +kernel
theorem d_Pr_begin_7 : decode prog_10_method_3_code 7 = .ok (.putfield 62, 3) := by decide +kernel
theorem d_Pr_begin_10 : decode prog_10_method_3_code 10 = .ok (.aload_n 0, 1) := by decide +kernel
theorem d_Pr_begin_11 : decode prog_10_method_3_code 11 = .ok (.getfield 58, 3) := by decide +kernel
theorem d_Pr_begin_14 : decode prog_10_method_3_code 14 = .ok (.aload_n 0, 1) := by decide +kernel
theorem d_Pr_begin_15 : decode prog_10_method_3_code 15 = .ok (.getfield 62, 3) := by decide +kernel
theorem d_Pr_begin_18 : decode prog_10_method_3_code 18 = .ok (.getfield 66, 3) := by decide +kernel
theorem d_Pr_begin_21 : decode prog_10_method_3_code 21 = .ok (.putfield 72, 3) := by decide +kernel
theorem d_Pr_begin_24 : decode prog_10_method_3_code 24 = .ok (.aload_n 0, 1) := by decide +kernel
theorem d_Pr_begin_25 : decode prog_10_method_3_code 25 = .ok (.getfield 58, 3) := by decide +kernel
theorem d_Pr_begin_28 : decode prog_10_method_3_code 28 = .ok (.iconst 0, 1) := by decide +kernel
theorem d_Pr_begin_29 : decode prog_10_method_3_code 29 = .ok (.putfield 77, 3) := by decide +kernel
theorem d_Pr_begin_32 : decode prog_10_method_3_code 32 = .ok (.aload_n 0, 1) := by decide +kernel
theorem d_Pr_begin_33 : decode prog_10_method_3_code 33 = .ok (.getfield 58, 3) := by decide +kernel
theorem d_Pr_begin_36 : decode prog_10_method_3_code 36 = .ok (.iconst 0, 1) := by decide +kernel
theorem d_Pr_begin_37 : decode prog_10_method_3_code 37 = .ok (.putfield 80, 3) := by decide +kernel
theorem d_Pr_begin_40 : decode prog_10_method_3_code 40 = .ok (.aload_n 0, 1) := by decide +kernel
theorem d_Pr_begin_41 : decode prog_10_method_3_code 41 = .ok (.getfield 58, 3) := by decide +kernel
theorem d_Pr_begin_44 : decode prog_10_method_3_code 44 = .ok (.aload_n 0, 1) := by decide +kernel
theorem d_Pr_begin_45 : decode prog_10_method_3_code 45 = .ok (.getfield 9, 3) := by decide +kernel
theorem d_Pr_begin_48 : decode prog_10_method_3_code 48 = .ok (.iconst 0, 1) := by decide +kernel
theorem d_Pr_begin_49 : decode prog_10_method_3_code 49 = .ok (.invokevirtual 19, 3) := by decide +kernel
theorem d_Pr_begin_52 : decode prog_10_method_3_code 52 = .ok (.bipush 94, 2) := by decide +kernel
theorem d_Pr_begin_54 : decode prog_10_method_3_code 54 = .ok (.if_icmp .ne 7, 3) := by decide +kernel
theorem d_Pr_begin_57 : decode prog_10_method_3_code 57 = .ok (.iconst 1, 1) := by decide +kernel
theorem d_Pr_begin_58 : decode prog_10_method_3_code 58 = .ok (.goto 4, 3) := by decide +kernel
theorem d_Pr_begin_61 : decode prog_10_method_3_code 61 = .ok (.iconst 0, 1) := by decide +kernel
theorem d_Pr_begin_62 : decode prog_10_method_3_code 62 = .ok (.putfield 83, 3) := by decide +kernel
theorem d_Pr_begin_65 : decode prog_10_method_3_code 65 = .ok (.aload_n 0, 1) := by decide +kernel
theorem d_Pr_begin_66 : decode prog_10_method_3_code 66 = .ok (.getfield 58, 3) := by decide +kernel
theorem d_Pr_begin_69 : decode prog_10_method_3_code 69 = .ok (.getfield 83, 3) := by decide +kernel
theorem d_Pr_begin_72 : decode prog_10_method_3_code 72 = .ok (.ifCond .eq 16, 3) := by decide +kernel
theorem d_Pr_begin_75 : decode prog_10_method_3_code 75 = .ok (.aload_n 0, 1) := by decide +kernel
theorem d_Pr_begin_76 : decode prog_10_method_3_code 76 = .ok (.getfield 9, 3) := by decide +kernel
theorem d_Pr_begin_79 : decode prog_10_method_3_code 79 = .ok (.dup, 1) := by decide +kernel
theorem d_Pr_begin_80 : decode prog_10_method_3_code 80 = .ok (.getfield 86, 3) := by decide +kernel
theorem d_Pr_begin_83 : decode prog_10_method_3_code 83 = .ok (.iconst 1, 1) := by decide +kernel
theorem d_Pr_begin_84 : decode prog_10_method_3_code 84 = .ok (.iadd, 1) := by decide +kernel
theorem d_Pr_begin_85 : decode prog_10_method_3_code 85 = .ok (.putfield 86, 3) := by decide +kernel
theorem d_Pr_begin_88 : decode prog_10_method_3_code 88 = .ok (.aload_n 0, 1) := by decide +kernel
theorem d_Pr_begin_89 : decode prog_10_method_3_code 89 = .ok (.iconst 0, 1) := by decide +kernel
theorem d_Pr_begin_90 : decode prog_10_method_3_code 90 = .ok (.putfield 89, 3) := by decide +kernel
theorem d_Pr_begin_93 : decode prog_10_method_3_code 93 = .ok (.aload_n 0, 1) := by decide +kernel
theorem d_Pr_begin_94 : decode prog_10_method_3_code 94 = .ok (.iconst 0, 1) := by decide +kernel
theorem d_Pr_begin_95 : decode prog_10_method_3_code 95 = .ok (.putfield 92, 3) := by decide +kernel
theorem d_Pr_begin_98 : decode prog_10_method_3_code 98 = .ok (.aload_n 0, 1) := by decide +kernel
theorem d_Pr_begin_99 : decode prog_10_method_3_code 99 = .ok (.iconst 0, 1) := by decide +kernel
theorem d_Pr_begin_100 : decode prog_10_method_3_code 100 = .ok (.putfield 47, 3) := by decide +kernel
theorem d_Pr_begin_103 : decode prog_10_method_3_code 103 = .ok (.aload_n 0, 1) := by decide +kernel
theorem d_Pr_begin_104 : decode prog_10_method_3_code 104 = .ok (.iconst 0, 1) := by decide +kernel
theorem d_Pr_begin_105 : decode prog_10_method_3_code 105 = .ok (.putfield 95, 3) := by decide +kernel
theorem d_Pr_begin_108 : decode prog_10_method_3_code 108 = .ok (.return_, 1) := by decide +kernel
theorem d_Pr_readStar_0 : decode prog_10_method_5_code 0 = .ok (.aload_n 0, 1) := by decide +kernel
theorem d_Pr_readStar_1 : decode prog_10_method_5_code 1 = .ok (.getfield 95, 3) := by decide +kernel
theorem d_Pr_readStar_4 : decode prog_10_method_5_code 4 = .ok (.ifCond .eq 11, 3) := by decide +kernel
theorem d_Pr_readStar_7 : decode prog_10_method_5_code 7 = .ok (.aload_n 0, 1) := by decide +kernel
theorem d_Pr_readStar_8 : decode prog_10_method_5_code 8 = .ok (.getfield 92, 3) := by decide +kernel
theorem d_Pr_readStar_11 : decode prog_10_method_5_code 11 = .ok (.iconst 2, 1) := by decide +kernel
theorem d_Pr_readStar_12 : decode prog_10_method_5_code 12 = .ok (.if_icmp .ne 12, 3) := by decide +kernel
theorem d_Pr_readStar_15 : decode prog_10_method_5_code 15 = .ok (.aload_n 0, 1) := by decide +kernel
theorem d_Pr_readStar_16 : decode prog_10_method_5_code 16 = .ok (.getfield 9, 3) := by decide +kernel
theorem d_Pr_readStar_19 : decode prog_10_method_5_code 19 = .ok (.iconst 0, 1) := by decide +kernel
theorem d_Pr_readStar_20 : decode prog_10_method_5_code 20 = .ok (.invokevirtual 51, 3) := by decide +kernel
theorem d_Pr_readStar_23 : decode prog_10_method_5_code 23 = .ok (.ireturn, 1) := by decide +kernel
theorem d_Pr_readStar_24 : decode prog_10_method_5_code 24 = .ok (.aload_n 0, 1) := by decide +kernel
theorem d_Pr_readStar_25 : decode prog_10_method_5_code 25 = .ok (.getfield 92, 3) := by decide +kernel
theorem d_Pr_readStar_28 : decode prog_10_method_5_code 28 = .ok (.ifCond .ne 22, 3) := by decide +kernel
theorem d_Pr_readStar_31 : decode prog_10_method_5_code 31 = .ok (.aload_n 0, 1) := by decide +kernel
theorem d_Pr_readStar_32 : decode prog_10_method_5_code 32 = .ok (.getfield 58, 3) := by decide +kernel
theorem d_Pr_readStar_35 : decode prog_10_method_5_code 35 = .ok (.aload_n 0, 1) := by decide +kernel
theorem d_Pr_readStar_36 : decode prog_10_method_5_code 36 = .ok (.getfield 62, 3) := by decide +kernel
theorem d_Pr_readStar_39 : decode prog_10_method_5_code 39 = .ok (.getfield 66, 3) := by decide +kernel
theorem d_Pr_readStar_42 : decode prog_10_method_5_code 42 = .ok (.iconst 1, 1) := by decide +kernel
theorem d_Pr_readStar_43 : decode prog_10_method_5_code 43 = .ok (.isub, 1) := by decide +kernel
theorem d_Pr_readStar_44 : decode prog_10_method_5_code 44 = .ok (.putfield 101, 3) := by decide +kernel
theorem d_Pr_readStar_47 : decode prog_10_method_5_code 47 = .ok (.goto 19, 3) := by decide +kernel
theorem d_Pr_readStar_50 : decode prog_10_method_5_code 50 = .ok (.aload_n 0, 1) := by decide +kernel
theorem d_Pr_readStar_51 : decode prog_10_method_5_code 51 = .ok (.getfield 58, 3) := by decide +kernel
theorem d_Pr_readStar_54 : decode prog_10_method_5_code 54 = .ok (.aload_n 0, 1) := by decide +kernel
theorem d_Pr_readStar_55 : decode prog_10_method_5_code 55 = .ok (.getfield 62, 3) := by decide +kernel
theorem d_Pr_readStar_58 : decode prog_10_method_5_code 58 = .ok (.getfield 66, 3) := by decide +kernel
theorem d_Pr_readStar_61 : decode prog_10_method_5_code 61 = .ok (.iconst 1, 1) := by decide +kernel
theorem d_Pr_readStar_62 : decode prog_10_method_5_code 62 = .ok (.isub, 1) := by decide +kernel
theorem d_Pr_readStar_63 : decode prog_10_method_5_code 63 = .ok (.putfield 104, 3) := by decide +kernel
theorem d_Pr_readStar_66 : decode prog_10_method_5_code 66 = .ok (.aload_n 0, 1) := by decide +kernel
theorem d_Pr_readStar_67 : decode prog_10_method_5_code 67 = .ok (.dup, 1) := by decide +kernel
theorem d_Pr_readStar_68 : decode prog_10_method_5_code 68 = .ok (.getfield 92, 3) := by decide +kernel
theorem d_Pr_readStar_71 : decode prog_10_method_5_code 71 = .ok (.iconst 1, 1) := by decide +kernel
theorem d_Pr_readStar_72 : decode prog_10_method_5_code 72 = .ok (.iadd, 1) := by decide +kernel
theorem d_Pr_readStar_73 : decode prog_10_method_5_code 73 = .ok (.putfield 92, 3) := by decide +kernel
theorem d_Pr_readStar_76 : decode prog_10_method_5_code 76 = .ok (.aload_n 0, 1) := by decide +kernel
theorem d_Pr_readStar_77 : decode prog_10_method_5_code 77 = .ok (.iconst 0, 1) := by decide +kernel
theorem d_Pr_readStar_78 : decode prog_10_method_5_code 78 = .ok (.putfield 95, 3) := by decide +kernel
theorem d_Pr_readStar_81 : decode prog_10_method_5_code 81 = .ok (.aload_n 0, 1) := by decide +kernel
theorem d_Pr_readStar_82 : decode prog_10_method_5_code 82 = .ok (.getfield 9, 3) := by decide +kernel
theorem d_Pr_readStar_85 : decode prog_10_method_5_code 85 = .ok (.dup, 1) := by decide +kernel
theorem d_Pr_readStar_86 : decode prog_10_method_5_code 86 = .ok (.getfield 86, 3) := by decide +kernel
theorem d_Pr_readStar_89 : decode prog_10_method_5_code 89 = .ok (.iconst 1, 1) := by decide +kernel
theorem d_Pr_readStar_90 : decode prog_10_method_5_code 90 = .ok (.iadd, 1) := by decide +kernel
theorem d_Pr_readStar_91 : decode prog_10_method_5_code 91 = .ok (.putfield 86, 3) := by decide +kernel
theorem d_Pr_readStar_94 : decode prog_10_method_5_code 94 = .ok (.iconst 1, 1) := by decide +kernel
theorem d_Pr_readStar_95 : decode prog_10_method_5_code 95 = .ok (.ireturn, 1) := by decide +kernel
theorem d_Pr_mayEscape_0 : decode prog_10_method_11_code 0 = .ok (.aload_n 0, 1) := by decide +kernel
theorem d_Pr_mayEscape_1 : decode prog_10_method_11_code 1 = .ok (.getfield 89, 3) := by decide +kernel
theorem d_Pr_mayEscape_4 : decode prog_10_method_11_code 4 = .ok (.bipush 14, 2) := by decide +kernel
theorem d_Pr_mayEscape_6 : decode prog_10_method_11_code 6 = .ok (.if_icmp .lt 21, 3) := by decide +kernel
theorem d_Pr_mayEscape_9 : decode prog_10_method_11_code 9 = .ok (.aload_n 0, 1) := by decide +kernel
theorem d_Pr_mayEscape_10 : decode prog_10_method_11_code 10 = .ok (.getfield 47, 3) := by decide +kernel
theorem d_Pr_mayEscape_13 : decode prog_10_method_11_code 13 = .ok (.ifCond .ne 14, 3) := by decide +kernel
theorem d_Pr_mayEscape_16 : decode prog_10_method_11_code 16 = .ok (.aload_n 0, 1) := by decide +kernel
theorem d_Pr_mayEscape_17 : decode prog_10_method_11_code 17 = .ok (.getfield 58, 3) := by decide +kernel
theorem d_Pr_mayEscape_20 : decode prog_10_method_11_code 20 = .ok (.getfield 77, 3) := by decide +kernel
theorem d_Pr_mayEscape_23 : decode prog_10_method_11_code 23 = .ok (.iconst 3, 1) := by decide +kernel
theorem d_Pr_mayEscape_24 : decode prog_10_method_11_code 24 = .ok (.if_icmp .ge 7, 3) := by decide +kernel
theorem d_Pr_mayEscape_27 : decode prog_10_method_11_code 27 = .ok (.iconst 1, 1) := by decide +kernel
theorem d_Pr_mayEscape_28 : decode prog_10_method_11_code 28 = .ok (.goto 4, 3) := by decide +kernel
theorem d_Pr_mayEscape_31 : decode prog_10_method_11_code 31 = .ok (.iconst 0, 1) := by decide +kernel
theorem d_Pr_mayEscape_32 : decode prog_10_method_11_code 32 = .ok (.ireturn, 1) := by decide +kernel
theorem d_Pr_openGroup_0 : decode prog_10_method_12_code 0 = .ok (.aload_n 0, 1) := by decide +kernel
theorem d_Pr_openGroup_1 : decode prog_10_method_12_code 1 = .ok (.getfield 47, 3) := by decide +kernel
theorem d_Pr_openGroup_4 : decode prog_10_method_12_code 4 = .ok (.ifCond .ne 14, 3) := by decide +kernel
theorem d_Pr_openGroup_7 : decode prog_10_method_12_code 7 = .ok (.aload_n 0, 1) := by decide +kernel
theorem d_Pr_openGroup_8 : decode prog_10_method_12_code 8 = .ok (.getfield 58, 3) := by decide +kernel
theorem d_Pr_openGroup_11 : decode prog_10_method_12_code 11 = .ok (.getfield 77, 3) := by decide +kernel
theorem d_Pr_openGroup_14 : decode prog_10_method_12_code 14 = .ok (.iconst 3, 1) := by decide +kernel
theorem d_Pr_openGroup_15 : decode prog_10_method_12_code 15 = .ok (.if_icmp .ne 12, 3) := by decide +kernel
theorem d_Pr_openGroup_18 : decode prog_10_method_12_code 18 = .ok (.aload_n 0, 1) := by decide +kernel
theorem d_Pr_openGroup_19 : decode prog_10_method_12_code 19 = .ok (.getfield 9, 3) := by decide +kernel
theorem d_Pr_openGroup_22 : decode prog_10_method_12_code 22 = .ok (.iconst 0, 1) := by decide +kernel
theorem d_Pr_openGroup_23 : decode prog_10_method_12_code 23 = .ok (.invokevirtual 51, 3) := by decide +kernel
theorem d_Pr_openGroup_26 : decode prog_10_method_12_code 26 = .ok (.ireturn, 1) := by decide +kernel
theorem d_Pr_openGroup_27 : decode prog_10_method_12_code 27 = .ok (.aload_n 0, 1) := by decide +kernel
theorem d_Pr_openGroup_28 : decode prog_10_method_12_code 28 = .ok (.getfield 58, 3) := by decide +kernel
theorem d_Pr_openGroup_31 : decode prog_10_method_12_code 31 = .ok (.dup, 1) := by decide +kernel
theorem d_Pr_openGroup_32 : decode prog_10_method_12_code 32 = .ok (.getfield 77, 3) := by decide +kernel
theorem d_Pr_openGroup_35 : decode prog_10_method_12_code 35 = .ok (.iconst 1, 1) := by decide +kernel
theorem d_Pr_openGroup_36 : decode prog_10_method_12_code 36 = .ok (.iadd, 1) := by decide +kernel
theorem d_Pr_openGroup_37 : decode prog_10_method_12_code 37 = .ok (.putfield 77, 3) := by decide +kernel
theorem d_Pr_openGroup_40 : decode prog_10_method_12_code 40 = .ok (.aload_n 0, 1) := by decide +kernel
theorem d_Pr_openGroup_41 : decode prog_10_method_12_code 41 = .ok (.iconst 1, 1) := by decide +kernel
theorem d_Pr_openGroup_42 : decode prog_10_method_12_code 42 = .ok (.putfield 47, 3) := by decide +kernel
theorem d_Pr_openGroup_45 : decode prog_10_method_12_code 45 = .ok (.aload_n 0, 1) := by decide +kernel
theorem d_Pr_openGroup_46 : decode prog_10_method_12_code 46 = .ok (.iconst 0, 1) := by decide +kernel
theorem d_Pr_openGroup_47 : decode prog_10_method_12_code 47 = .ok (.putfield 95, 3) := by decide +kernel
theorem d_Pr_openGroup_50 : decode prog_10_method_12_code 50 = .ok (.aload_n 0, 1) := by decide +kernel
theorem d_Pr_openGroup_51 : decode prog_10_method_12_code 51 = .ok (.getfield 62, 3) := by decide +kernel
theorem d_Pr_openGroup_54 : decode prog_10_method_12_code 54 = .ok (.iconst 1, 1) := by decide +kernel
theorem d_Pr_openGroup_55 : decode prog_10_method_12_code 55 = .ok (.aload_n 0, 1) := by decide +kernel
theorem d_Pr_openGroup_56 : decode prog_10_method_12_code 56 = .ok (.getfield 58, 3) := by decide +kernel
theorem d_Pr_openGroup_59 : decode prog_10_method_12_code 59 = .ok (.getfield 77, 3) := by decide +kernel
theorem d_Pr_openGroup_62 : decode prog_10_method_12_code 62 = .ok (.invokevirtual 117, 3) := by decide +kernel
theorem d_Pr_openGroup_65 : decode prog_10_method_12_code 65 = .ok (.aload_n 0, 1) := by decide +kernel
theorem d_Pr_openGroup_66 : decode prog_10_method_12_code 66 = .ok (.getfield 9, 3) := by decide +kernel
theorem d_Pr_openGroup_69 : decode prog_10_method_12_code 69 = .ok (.dup, 1) := by decide +kernel
theorem d_Pr_openGroup_70 : decode prog_10_method_12_code 70 = .ok (.getfield 86, 3) := by decide +kernel
theorem d_Pr_openGroup_73 : decode prog_10_method_12_code 73 = .ok (.iconst 2, 1) := by decide +kernel
theorem d_Pr_openGroup_74 : decode prog_10_method_12_code 74 = .ok (.iadd, 1) := by decide +kernel
theorem d_Pr_openGroup_75 : decode prog_10_method_12_code 75 = .ok (.putfield 86, 3) := by decide +kernel
theorem d_Pr_openGroup_78 : decode prog_10_method_12_code 78 = .ok (.iconst 1, 1) := by decide +kernel
theorem d_Pr_openGroup_79 : decode prog_10_method_12_code 79 = .ok (.ireturn, 1) := by decide +kernel
theorem d_Pr_closeGroup_0 : decode prog_10_method_13_code 0 = .ok (.aload_n 0, 1) := by decide +kernel
theorem d_Pr_closeGroup_1 : decode prog_10_method_13_code 1 = .ok (.getfield 47, 3) := by decide +kernel
theorem d_Pr_closeGroup_4 : decode prog_10_method_13_code 4 = .ok (.ifCond .ne 12, 3) := by decide +kernel
theorem d_Pr_closeGroup_7 : decode prog_10_method_13_code 7 = .ok (.aload_n 0, 1) := by decide +kernel
theorem d_Pr_closeGroup_8 : decode prog_10_method_13_code 8 = .ok (.getfield 9, 3) := by decide +kernel
theorem d_Pr_closeGroup_11 : decode prog_10_method_13_code 11 = .ok (.iconst 0, 1) := by decide +kernel
theorem d_Pr_closeGroup_12 : decode prog_10_method_13_code 12 = .ok (.invokevirtual 51, 3) := by decide +kernel
theorem d_Pr_closeGroup_15 : decode prog_10_method_13_code 15 = .ok (.ireturn, 1) := by decide +kernel
theorem d_Pr_closeGroup_16 : decode prog_10_method_13_code 16 = .ok (.aload_n 0, 1) := by decide +kernel
theorem d_Pr_closeGroup_17 : decode prog_10_method_13_code 17 = .ok (.iconst 0, 1) := by decide +kernel
theorem d_Pr_closeGroup_18 : decode prog_10_method_13_code 18 = .ok (.putfield 47, 3) := by decide +kernel
theorem d_Pr_closeGroup_21 : decode prog_10_method_13_code 21 = .ok (.aload_n 0, 1) := by decide +kernel
theorem d_Pr_closeGroup_22 : decode prog_10_method_13_code 22 = .ok (.iconst 0, 1) := by decide +kernel
theorem d_Pr_closeGroup_23 : decode prog_10_method_13_code 23 = .ok (.putfield 95, 3) := by decide +kernel
theorem d_Pr_closeGroup_26 : decode prog_10_method_13_code 26 = .ok (.aload_n 0, 1) := by decide +kernel
theorem d_Pr_closeGroup_27 : decode prog_10_method_13_code 27 = .ok (.getfield 62, 3) := by decide +kernel
theorem d_Pr_closeGroup_30 : decode prog_10_method_13_code 30 = .ok (.iconst 2, 1) := by decide +kernel
theorem d_Pr_closeGroup_31 : decode prog_10_method_13_code 31 = .ok (.aload_n 0, 1) := by decide +kernel
theorem d_Pr_closeGroup_32 : decode prog_10_method_13_code 32 = .ok (.getfield 58, 3) := by decide +kernel
theorem d_Pr_closeGroup_35 : decode prog_10_method_13_code 35 = .ok (.getfield 77, 3) := by decide +kernel
theorem d_Pr_closeGroup_38 : decode prog_10_method_13_code 38 = .ok (.invokevirtual 117, 3) := by decide +kernel
theorem d_Pr_closeGroup_41 : decode prog_10_method_13_code 41 = .ok (.aload_n 0, 1) := by decide +kernel
theorem d_Pr_closeGroup_42 : decode prog_10_method_13_code 42 = .ok (.getfield 9, 3) := by decide +kernel
theorem d_Pr_closeGroup_45 : decode prog_10_method_13_code 45 = .ok (.dup, 1) := by decide +kernel
theorem d_Pr_closeGroup_46 : decode prog_10_method_13_code 46 = .ok (.getfield 86, 3) := by decide +kernel
theorem d_Pr_closeGroup_49 : decode prog_10_method_13_code 49 = .ok (.iconst 2, 1) := by decide +kernel
theorem d_Pr_closeGroup_50 : decode prog_10_method_13_code 50 = .ok (.iadd, 1) := by decide +kernel
theorem d_Pr_closeGroup_51 : decode prog_10_method_13_code 51 = .ok (.putfield 86, 3) := by decide +kernel
theorem d_Pr_closeGroup_54 : decode prog_10_method_13_code 54 = .ok (.iconst 1, 1) := by decide +kernel
theorem d_Pr_closeGroup_55 : decode prog_10_method_13_code 55 = .ok (.ireturn, 1) := by decide +kernel
theorem d_Pr_readSame_0 : decode prog_10_method_14_code 0 = .ok (.aload_n 0, 1) := by decide +kernel
theorem d_Pr_readSame_1 : decode prog_10_method_14_code 1 = .ok (.getfield 47, 3) := by decide +kernel
theorem d_Pr_readSame_4 : decode prog_10_method_14_code 4 = .ok (.ifCond .eq 15, 3) := by decide +kernel
theorem d_Pr_readSame_7 : decode prog_10_method_14_code 7 = .ok (.aload_n 0, 1) := by decide +kernel
theorem d_Pr_readSame_8 : decode prog_10_method_14_code 8 = .ok (.getfield 58, 3) := by decide +kernel
theorem d_Pr_readSame_11 : decode prog_10_method_14_code 11 = .ok (.getfield 77, 3) := by decide +kernel
theorem d_Pr_readSame_14 : decode prog_10_method_14_code 14 = .ok (.iconst 1, 1) := by decide +kernel
theorem d_Pr_readSame_15 : decode prog_10_method_14_code 15 = .ok (.isub, 1) := by decide +kernel
theorem d_Pr_readSame_16 : decode prog_10_method_14_code 16 = .ok (.goto 10, 3) := by decide +kernel
theorem d_Pr_readSame_19 : decode prog_10_method_14_code 19 = .ok (.aload_n 0, 1) := by decide +kernel
theorem d_Pr_readSame_20 : decode prog_10_method_14_code 20 = .ok (.getfield 58, 3) := by decide +kernel
theorem d_Pr_readSame_23 : decode prog_10_method_14_code 23 = .ok (.getfield 77, 3) := by decide +kernel
theorem d_Pr_readSame_26 : decode prog_10_method_14_code 26 = .ok (.istore_n 2, 1) := by decide +kernel
theorem d_Pr_readSame_27 : decode prog_10_method_14_code 27 = .ok (.iload_n 1, 1) := by decide +kernel
theorem d_Pr_readSame_28 : decode prog_10_method_14_code 28 = .ok (.iload_n 2, 1) := by decide +kernel
theorem d_Pr_readSame_29 : decode prog_10_method_14_code 29 = .ok (.if_icmp .gt 12, 3) := by decide +kernel
theorem d_Pr_readSame_32 : decode prog_10_method_14_code 32 = .ok (.aload_n 0, 1) := by decide +kernel
theorem d_Pr_readSame_33 : decode prog_10_method_14_code 33 = .ok (.getfield 89, 3) := by decide +kernel
theorem d_Pr_readSame_36 : decode prog_10_method_14_code 36 = .ok (.bipush 14, 2) := by decide +kernel
theorem d_Pr_readSame_38 : decode prog_10_method_14_code 38 = .ok (.if_icmp .ne 12, 3) := by decide +kernel
theorem d_Pr_readSame_41 : decode prog_10_method_14_code 41 = .ok (.aload_n 0, 1) := by decide +kernel
theorem d_Pr_readSame_42 : decode prog_10_method_14_code 42 = .ok (.getfield 9, 3) := by decide +kernel
theorem d_Pr_readSame_45 : decode prog_10_method_14_code 45 = .ok (.iconst 0, 1) := by decide +kernel
theorem d_Pr_readSame_46 : decode prog_10_method_14_code 46 = .ok (.invokevirtual 51, 3) := by decide +kernel
theorem d_Pr_readSame_49 : decode prog_10_method_14_code 49 = .ok (.ireturn, 1) := by decide +kernel
theorem d_Pr_readSame_50 : decode prog_10_method_14_code 50 = .ok (.aload_n 0, 1) := by decide +kernel
theorem d_Pr_readSame_51 : decode prog_10_method_14_code 51 = .ok (.dup, 1) := by decide +kernel
theorem d_Pr_readSame_52 : decode prog_10_method_14_code 52 = .ok (.getfield 89, 3) := by decide +kernel
theorem d_Pr_readSame_55 : decode prog_10_method_14_code 55 = .ok (.iconst 1, 1) := by decide +kernel
theorem d_Pr_readSame_56 : decode prog_10_method_14_code 56 = .ok (.iadd, 1) := by decide +kernel
theorem d_Pr_readSame_57 : decode prog_10_method_14_code 57 = .ok (.putfield 89, 3) := by decide +kernel
theorem d_Pr_readSame_60 : decode prog_10_method_14_code 60 = .ok (.aload_n 0, 1) := by decide +kernel
theorem d_Pr_readSame_61 : decode prog_10_method_14_code 61 = .ok (.iconst 0, 1) := by decide +kernel
theorem d_Pr_readSame_62 : decode prog_10_method_14_code 62 = .ok (.putfield 95, 3) := by decide +kernel
theorem d_Pr_readSame_65 : decode prog_10_method_14_code 65 = .ok (.aload_n 0, 1) := by decide +kernel
theorem d_Pr_readSame_66 : decode prog_10_method_14_code 66 = .ok (.getfield 62, 3) := by decide +kernel
theorem d_Pr_readSame_69 : decode prog_10_method_14_code 69 = .ok (.iconst 3, 1) := by decide +kernel
theorem d_Pr_readSame_70 : decode prog_10_method_14_code 70 = .ok (.iload_n 1, 1) := by decide +kernel
theorem d_Pr_readSame_71 : decode prog_10_method_14_code 71 = .ok (.invokevirtual 117, 3) := by decide +kernel
theorem d_Pr_readSame_74 : decode prog_10_method_14_code 74 = .ok (.aload_n 0, 1) := by decide +kernel
theorem d_Pr_readSame_75 : decode prog_10_method_14_code 75 = .ok (.getfield 9, 3) := by decide +kernel
theorem d_Pr_readSame_78 : decode prog_10_method_14_code 78 = .ok (.dup, 1) := by decide +kernel
theorem d_Pr_readSame_79 : decode prog_10_method_14_code 79 = .ok (.getfield 86, 3) := by decide +kernel
theorem d_Pr_readSame_82 : decode prog_10_method_14_code 82 = .ok (.iconst 2, 1) := by decide +kernel
theorem d_Pr_readSame_83 : decode prog_10_method_14_code 83 = .ok (.iadd, 1) := by decide +kernel
theorem d_Pr_readSame_84 : decode prog_10_method_14_code 84 = .ok (.putfield 86, 3) := by decide +kernel
theorem d_Pr_readSame_87 : decode prog_10_method_14_code 87 = .ok (.iconst 1, 1) := by decide +kernel
theorem d_Pr_readSame_88 : decode prog_10_method_14_code 88 = .ok (.ireturn, 1) := by decide +kernel
theorem d_Pr_addOne_0 : decode prog_10_method_9_code 0 = .ok (.aload_n 0, 1) := by decide +kernel
theorem d_Pr_addOne_1 : decode prog_10_method_9_code 1 = .ok (.getfield 89, 3) := by decide +kernel
theorem d_Pr_addOne_4 : decode prog_10_method_9_code 4 = .ok (.bipush 14, 2) := by decide +kernel
theorem d_Pr_addOne_6 : decode prog_10_method_9_code 6 = .ok (.if_icmp .ne 12, 3) := by decide +kernel
theorem d_Pr_addOne_9 : decode prog_10_method_9_code 9 = .ok (.aload_n 0, 1) := by decide +kernel
theorem d_Pr_addOne_10 : decode prog_10_method_9_code 10 = .ok (.getfield 9, 3) := by decide +kernel
theorem d_Pr_addOne_13 : decode prog_10_method_9_code 13 = .ok (.iconst 0, 1) := by decide +kernel
theorem d_Pr_addOne_14 : decode prog_10_method_9_code 14 = .ok (.invokevirtual 51, 3) := by decide +kernel
theorem d_Pr_addOne_17 : decode prog_10_method_9_code 17 = .ok (.ireturn, 1) := by decide +kernel
theorem d_Pr_addOne_18 : decode prog_10_method_9_code 18 = .ok (.aload_n 0, 1) := by decide +kernel
theorem d_Pr_addOne_19 : decode prog_10_method_9_code 19 = .ok (.getfield 62, 3) := by decide +kernel
theorem d_Pr_addOne_22 : decode prog_10_method_9_code 22 = .ok (.iconst 0, 1) := by decide +kernel
theorem d_Pr_addOne_23 : decode prog_10_method_9_code 23 = .ok (.iconst 0, 1) := by decide +kernel
theorem d_Pr_addOne_24 : decode prog_10_method_9_code 24 = .ok (.invokevirtual 117, 3) := by decide +kernel
theorem d_Pr_addOne_27 : decode prog_10_method_9_code 27 = .ok (.aload_n 0, 1) := by decide +kernel
theorem d_Pr_addOne_28 : decode prog_10_method_9_code 28 = .ok (.dup, 1) := by decide +kernel
theorem d_Pr_addOne_29 : decode prog_10_method_9_code 29 = .ok (.getfield 89, 3) := by decide +kernel
theorem d_Pr_addOne_32 : decode prog_10_method_9_code 32 = .ok (.iconst 1, 1) := by decide +kernel
theorem d_Pr_addOne_33 : decode prog_10_method_9_code 33 = .ok (.iadd, 1) := by decide +kernel
theorem d_Pr_addOne_34 : decode prog_10_method_9_code 34 = .ok (.putfield 89, 3) := by decide +kernel
theorem d_Pr_addOne_37 : decode prog_10_method_9_code 37 = .ok (.aload_n 0, 1) := by decide +kernel
theorem d_Pr_addOne_38 : decode prog_10_method_9_code 38 = .ok (.iconst 1, 1) := by decide +kernel
theorem d_Pr_addOne_39 : decode prog_10_method_9_code 39 = .ok (.putfield 95, 3) := by decide +kernel
theorem d_Pr_addOne_42 : decode prog_10_method_9_code 42 = .ok (.iconst 1, 1) := by decide +kernel
theorem d_Pr_addOne_43 : decode prog_10_method_9_code 43 = .ok (.ireturn, 1) := by decide +kernel
theorem d_Pr_readEscape_0 : decode prog_10_method_10_code 0 = .ok (.aload_n 0, 1) := by decide +kernel
theorem d_Pr_readEscape_1 : decode prog_10_method_10_code 1 = .ok (.getfield 9, 3) := by decide +kernel
theorem d_Pr_readEscape_4 : decode prog_10_method_10_code 4 = .ok (.iconst 1, 1) := by decide +kernel
theorem d_Pr_readEscape_5 : decode prog_10_method_10_code 5 = .ok (.invokevirtual 19, 3) := by decide +kernel
theorem d_Pr_readEscape_8 : decode prog_10_method_10_code 8 = .ok (.istore_n 1, 1) := by decide +kernel
theorem d_Pr_readEscape_9 : decode prog_10_method_10_code 9 = .ok (.iload_n 1, 1) := by decide +kernel
theorem d_Pr_readEscape_10 : decode prog_10_method_10_code 10 = .ok (.lookupswitch 186 #[(-1, 114), (36, 153), (40, 134), (41, 139), (42, 153), (46, 153), (47, 153), (49, 144), (50, 144), (51, 144), (91, 153), (92, 153), (94, 153)], 114) := by decide +kernel
theorem d_Pr_readEscape_124 : decode prog_10_method_10_code 124 = .ok (.aload_n 0, 1) := by decide +kernel
theorem d_Pr_readEscape_125 : decode prog_10_method_10_code 125 = .ok (.getfield 9, 3) := by decide +kernel
theorem d_Pr_readEscape_128 : decode prog_10_method_10_code 128 = .ok (.aload_n 0, 1) := by decide +kernel
theorem d_Pr_readEscape_129 : decode prog_10_method_10_code 129 = .ok (.invokevirtual 120, 3) := by decide +kernel
theorem d_Pr_readEscape_132 : decode prog_10_method_10_code 132 = .ok (.ifCond .eq 7, 3) := by decide +kernel
theorem d_Pr_readEscape_135 : decode prog_10_method_10_code 135 = .ok (.iconst 1, 1) := by decide +kernel
theorem d_Pr_readEscape_136 : decode prog_10_method_10_code 136 = .ok (.goto 4, 3) := by decide +kernel
theorem d_Pr_readEscape_139 : decode prog_10_method_10_code 139 = .ok (.iconst 0, 1) := by decide +kernel
theorem d_Pr_readEscape_140 : decode prog_10_method_10_code 140 = .ok (.invokevirtual 51, 3) := by decide +kernel
theorem d_Pr_readEscape_143 : decode prog_10_method_10_code 143 = .ok (.ireturn, 1) := by decide +kernel
theorem d_Pr_readEscape_144 : decode prog_10_method_10_code 144 = .ok (.aload_n 0, 1) := by decide +kernel
theorem d_Pr_readEscape_145 : decode prog_10_method_10_code 145 = .ok (.invokevirtual 123, 3) := by decide +kernel
theorem d_Pr_readEscape_148 : decode prog_10_method_10_code 148 = .ok (.ireturn, 1) := by decide +kernel
theorem d_Pr_readEscape_149 : decode prog_10_method_10_code 149 = .ok (.aload_n 0, 1) := by decide +kernel
theorem d_Pr_readEscape_150 : decode prog_10_method_10_code 150 = .ok (.invokevirtual 126, 3) := by decide +kernel
theorem d_Pr_readEscape_153 : decode prog_10_method_10_code 153 = .ok (.ireturn, 1) := by decide +kernel
theorem d_Pr_readEscape_154 : decode prog_10_method_10_code 154 = .ok (.aload_n 0, 1) := by decide +kernel
theorem d_Pr_readEscape_155 : decode prog_10_method_10_code 155 = .ok (.iload_n 1, 1) := by decide +kernel
theorem d_Pr_readEscape_156 : decode prog_10_method_10_code 156 = .ok (.bipush 48, 2) := by decide +kernel
theorem d_Pr_readEscape_158 : decode prog_10_method_10_code 158 = .ok (.isub, 1) := by decide +kernel
theorem d_Pr_readEscape_159 : decode prog_10_method_10_code 159 = .ok (.invokevirtual 129, 3) := by decide +kernel
theorem d_Pr_readEscape_162 : decode prog_10_method_10_code 162 = .ok (.ireturn, 1) := by decide +kernel
theorem d_Pr_readEscape_163 : decode prog_10_method_10_code 163 = .ok (.aload_n 0, 1) := by decide +kernel
theorem d_Pr_readEscape_164 : decode prog_10_method_10_code 164 = .ok (.invokevirtual 107, 3) := by decide +kernel
theorem d_Pr_readEscape_167 : decode prog_10_method_10_code 167 = .ok (.ifCond .ne 5, 3) := by decide +kernel
theorem d_Pr_readEscape_170 : decode prog_10_method_10_code 170 = .ok (.iconst 0, 1) := by decide +kernel
theorem d_Pr_readEscape_171 : decode prog_10_method_10_code 171 = .ok (.ireturn, 1) := by decide +kernel
theorem d_Pr_readEscape_172 : decode prog_10_method_10_code 172 = .ok (.aload_n 0, 1) := by decide +kernel
theorem d_Pr_readEscape_173 : decode prog_10_method_10_code 173 = .ok (.getfield 62, 3) := by decide +kernel
theorem d_Pr_readEscape_176 : decode prog_10_method_10_code 176 = .ok (.iload_n 1, 1) := by decide +kernel
theorem d_Pr_readEscape_177 : decode prog_10_method_10_code 177 = .ok (.iload_n 1, 1) := by decide +kernel
theorem d_Pr_readEscape_178 : decode prog_10_method_10_code 178 = .ok (.invokevirtual 113, 3) := by decide +kernel
theorem d_Pr_readEscape_181 : decode prog_10_method_10_code 181 = .ok (.aload_n 0, 1) := by decide +kernel
theorem d_Pr_readEscape_182 : decode prog_10_method_10_code 182 = .ok (.getfield 9, 3) := by decide +kernel
theorem d_Pr_readEscape_185 : decode prog_10_method_10_code 185 = .ok (.dup, 1) := by decide +kernel
theorem d_Pr_readEscape_186 : decode prog_10_method_10_code 186 = .ok (.getfield 86, 3) := by decide +kernel
theorem d_Pr_readEscape_189 : decode prog_10_method_10_code 189 = .ok (.iconst 2, 1) := by decide +kernel
theorem d_Pr_readEscape_190 : decode prog_10_method_10_code 190 = .ok (.iadd, 1) := by decide +kernel
theorem d_Pr_readEscape_191 : decode prog_10_method_10_code 191 = .ok (.putfield 86, 3) := by decide +kernel
theorem d_Pr_readEscape_194 : decode prog_10_method_10_code 194 = .ok (.iconst 1, 1) := by decide +kernel
theorem d_Pr_readEscape_195 : decode prog_10_method_10_code 195 = .ok (.ireturn, 1) := by decide +kernel
theorem d_Pr_readEscape_196 : decode prog_10_method_10_code 196 = .ok (.aload_n 0, 1) := by decide +kernel
theorem d_Pr_readEscape_197 : decode prog_10_method_10_code 197 = .ok (.getfield 9, 3) := by decide +kernel
theorem d_Pr_readEscape_200 : decode prog_10_method_10_code 200 = .ok (.iconst 0, 1) := by decide +kernel
theorem d_Pr_readEscape_201 : decode prog_10_method_10_code 201 = .ok (.invokevirtual 51, 3) := by decide +kernel
theorem d_Pr_readEscape_204 : decode prog_10_method_10_code 204 = .ok (.ireturn, 1) := by decide +kernel
theorem d_Pr_isOutsideSets_0 : decode prog_10_method_17_code 0 = .ok (.iload_n 0, 1) := by decide +kernel
theorem d_Pr_isOutsideSets_1 : decode prog_10_method_17_code 1 = .ok (.iconst (-1), 1) := by decide +kernel
theorem d_Pr_isOutsideSets_2 : decode prog_10_method_17_code 2 = .ok (.if_icmp .eq 21, 3) := by decide +kernel
theorem d_Pr_isOutsideSets_5 : decode prog_10_method_17_code 5 = .ok (.iload_n 0, 1) := by decide +kernel
theorem d_Pr_isOutsideSets_6 : decode prog_10_method_17_code 6 = .ok (.bipush 10, 2) := by decide +kernel
theorem d_Pr_isOutsideSets_8 : decode prog_10_method_17_code 8 = .ok (.if_icmp .eq 15, 3) := by decide +kernel
theorem d_Pr_isOutsideSets_11 : decode prog_10_method_17_code 11 = .ok (.iload_n 0, 1) := by decide +kernel
theorem d_Pr_isOutsideSets_12 : decode prog_10_method_17_code 12 = .ok (.bipush 47, 2) := by decide +kernel
theorem d_Pr_isOutsideSets_14 : decode prog_10_method_17_code 14 = .ok (.if_icmp .eq 9, 3) := by decide +kernel
theorem d_Pr_isOutsideSets_17 : decode prog_10_method_17_code 17 = .ok (.iload_n 0, 1) := by decide +kernel
theorem d_Pr_isOutsideSets_18 : decode prog_10_method_17_code 18 = .ok (.bipush 93, 2) := by decide +kernel
theorem d_Pr_isOutsideSets_20 : decode prog_10_method_17_code 20 = .ok (.if_icmp .ne 7, 3) := by decide +kernel
theorem d_Pr_isOutsideSets_23 : decode prog_10_method_17_code 23 = .ok (.iconst 1, 1) := by decide +kernel
theorem d_Pr_isOutsideSets_24 : decode prog_10_method_17_code 24 = .ok (.goto 4, 3) := by decide +kernel
theorem d_Pr_isOutsideSets_27 : decode prog_10_method_17_code 27 = .ok (.iconst 0, 1) := by decide +kernel
theorem d_Pr_isOutsideSets_28 : decode prog_10_method_17_code 28 = .ok (.ireturn, 1) := by decide +kernel
theorem d_Pr_readRange_0 : decode prog_10_method_16_code 0 = .ok (.aload_n 0, 1) := by decide +kernel
theorem d_Pr_readRange_1 : decode prog_10_method_16_code 1 = .ok (.getfield 9, 3) := by decide +kernel
theorem d_Pr_readRange_4 : decode prog_10_method_16_code 4 = .ok (.iconst 0, 1) := by decide +kernel
theorem d_Pr_readRange_5 : decode prog_10_method_16_code 5 = .ok (.invokevirtual 19, 3) := by decide +kernel
theorem d_Pr_readRange_8 : decode prog_10_method_16_code 8 = .ok (.istore_n 1, 1) := by decide +kernel
theorem d_Pr_readRange_9 : decode prog_10_method_16_code 9 = .ok (.iload_n 1, 1) := by decide +kernel
theorem d_Pr_readRange_10 : decode prog_10_method_16_code 10 = .ok (.invokestatic 135, 3) := by decide +kernel
theorem d_Pr_readRange_13 : decode prog_10_method_16_code 13 = .ok (.ifCond .eq 12, 3) := by decide +kernel
theorem d_Pr_readRange_16 : decode prog_10_method_16_code 16 = .ok (.aload_n 0, 1) := by decide +kernel
theorem d_Pr_readRange_17 : decode prog_10_method_16_code 17 = .ok (.getfield 9, 3) := by decide +kernel
theorem d_Pr_readRange_20 : decode prog_10_method_16_code 20 = .ok (.iconst 0, 1) := by decide +kernel
theorem d_Pr_readRange_21 : decode prog_10_method_16_code 21 = .ok (.invokevirtual 51, 3) := by decide +kernel
theorem d_Pr_readRange_24 : decode prog_10_method_16_code 24 = .ok (.ireturn, 1) := by decide +kernel
theorem d_Pr_readRange_25 : decode prog_10_method_16_code 25 = .ok (.iload_n 1, 1) := by decide +kernel
theorem d_Pr_readRange_26 : decode prog_10_method_16_code 26 = .ok (.istore_n 2, 1) := by decide +kernel
theorem d_Pr_readRange_27 : decode prog_10_method_16_code 27 = .ok (.aload_n 0, 1) := by decide +kernel
theorem d_Pr_readRange_28 : decode prog_10_method_16_code 28 = .ok (.getfield 9, 3) := by decide +kernel
theorem d_Pr_readRange_31 : decode prog_10_method_16_code 31 = .ok (.iconst 1, 1) := by decide +kernel
theorem d_Pr_readRange_32 : decode prog_10_method_16_code 32 = .ok (.invokevirtual 19, 3) := by decide +kernel
theorem d_Pr_readRange_35 : decode prog_10_method_16_code 35 = .ok (.bipush 45, 2) := by decide +kernel
theorem d_Pr_readRange_37 : decode prog_10_method_16_code 37 = .ok (.if_icmp .ne 38, 3) := by decide +kernel
theorem d_Pr_readRange_40 : decode prog_10_method_16_code 40 = .ok (.aload_n 0, 1) := by decide +kernel
theorem d_Pr_readRange_41 : decode prog_10_method_16_code 41 = .ok (.getfield 9, 3) := by decide +kernel
theorem d_Pr_readRange_44 : decode prog_10_method_16_code 44 = .ok (.iconst 2, 1) := by decide +kernel
theorem d_Pr_readRange_45 : decode prog_10_method_16_code 45 = .ok (.invokevirtual 19, 3) := by decide +kernel
theorem d_Pr_readRange_48 : decode prog_10_method_16_code 48 = .ok (.bipush 93, 2) := by decide +kernel
theorem d_Pr_readRange_50 : decode prog_10_method_16_code 50 = .ok (.if_icmp .eq 25, 3) := by decide +kernel
theorem d_Pr_readRange_53 : decode prog_10_method_16_code 53 = .ok (.aload_n 0, 1) := by decide +kernel
theorem d_Pr_readRange_54 : decode prog_10_method_16_code 54 = .ok (.getfield 9, 3) := by decide +kernel
theorem d_Pr_readRange_57 : decode prog_10_method_16_code 57 = .ok (.dup, 1) := by decide +kernel
theorem d_Pr_readRange_58 : decode prog_10_method_16_code 58 = .ok (.getfield 86, 3) := by decide +kernel
theorem d_Pr_readRange_61 : decode prog_10_method_16_code 61 = .ok (.iconst 2, 1) := by decide +kernel
theorem d_Pr_readRange_62 : decode prog_10_method_16_code 62 = .ok (.iadd, 1) := by decide +kernel
theorem d_Pr_readRange_63 : decode prog_10_method_16_code 63 = .ok (.putfield 86, 3) := by decide +kernel
theorem d_Pr_readRange_66 : decode prog_10_method_16_code 66 = .ok (.aload_n 0, 1) := by decide +kernel
theorem d_Pr_readRange_67 : decode prog_10_method_16_code 67 = .ok (.getfield 9, 3) := by decide +kernel
theorem d_Pr_readRange_70 : decode prog_10_method_16_code 70 = .ok (.iconst 0, 1) := by decide +kernel
theorem d_Pr_readRange_71 : decode prog_10_method_16_code 71 = .ok (.invokevirtual 19, 3) := by decide +kernel
theorem d_Pr_readRange_74 : decode prog_10_method_16_code 74 = .ok (.istore_n 2, 1) := by decide +kernel
theorem d_Pr_readRange_75 : decode prog_10_method_16_code 75 = .ok (.iload_n 2, 1) := by decide +kernel
theorem d_Pr_readRange_76 : decode prog_10_method_16_code 76 = .ok (.invokestatic 135, 3) := by decide +kernel
theorem d_Pr_readRange_79 : decode prog_10_method_16_code 79 = .ok (.ifCond .ne 8, 3) := by decide +kernel
theorem d_Pr_readRange_82 : decode prog_10_method_16_code 82 = .ok (.iload_n 2, 1) := by decide +kernel
theorem d_Pr_readRange_83 : decode prog_10_method_16_code 83 = .ok (.iload_n 1, 1) := by decide +kernel
theorem d_Pr_readRange_84 : decode prog_10_method_16_code 84 = .ok (.if_icmp .ge 12, 3) := by decide +kernel
theorem d_Pr_readRange_87 : decode prog_10_method_16_code 87 = .ok (.aload_n 0, 1) := by decide +kernel
theorem d_Pr_readRange_88 : decode prog_10_method_16_code 88 = .ok (.getfield 9, 3) := by decide +kernel
theorem d_Pr_readRange_91 : decode prog_10_method_16_code 91 = .ok (.iconst 0, 1) := by decide +kernel
theorem d_Pr_readRange_92 : decode prog_10_method_16_code 92 = .ok (.invokevirtual 51, 3) := by decide +kernel
theorem d_Pr_readRange_95 : decode prog_10_method_16_code 95 = .ok (.ireturn, 1) := by decide +kernel
theorem d_Pr_readRange_96 : decode prog_10_method_16_code 96 = .ok (.aload_n 0, 1) := by decide +kernel
theorem d_Pr_readRange_97 : decode prog_10_method_16_code 97 = .ok (.getfield 62, 3) := by decide +kernel
theorem d_Pr_readRange_100 : decode prog_10_method_16_code 100 = .ok (.iload_n 1, 1) := by decide +kernel
theorem d_Pr_readRange_101 : decode prog_10_method_16_code 101 = .ok (.iload_n 2, 1) := by decide +kernel
theorem d_Pr_readRange_102 : decode prog_10_method_16_code 102 = .ok (.invokevirtual 113, 3) := by decide +kernel
theorem d_Pr_readRange_105 : decode prog_10_method_16_code 105 = .ok (.aload_n 0, 1) := by decide +kernel
theorem d_Pr_readRange_106 : decode prog_10_method_16_code 106 = .ok (.getfield 9, 3) := by decide +kernel
theorem d_Pr_readRange_109 : decode prog_10_method_16_code 109 = .ok (.dup, 1) := by decide +kernel
theorem d_Pr_readRange_110 : decode prog_10_method_16_code 110 = .ok (.getfield 86, 3) := by decide +kernel
theorem d_Pr_readRange_113 : decode prog_10_method_16_code 113 = .ok (.iconst 1, 1) := by decide +kernel
theorem d_Pr_readRange_114 : decode prog_10_method_16_code 114 = .ok (.iadd, 1) := by decide +kernel
theorem d_Pr_readRange_115 : decode prog_10_method_16_code 115 = .ok (.putfield 86, 3) := by decide +kernel
theorem d_Pr_readRange_118 : decode prog_10_method_16_code 118 = .ok (.iconst 1, 1) := by decide +kernel
theorem d_Pr_readRange_119 : decode prog_10_method_16_code 119 = .ok (.ireturn, 1) := by decide +kernel
theorem d_Pr_readSet_0 : decode prog_10_method_15_code 0 = .ok (.aload_n 0, 1) := by decide +kernel
theorem d_Pr_readSet_1 : decode prog_10_method_15_code 1 = .ok (.invokevirtual 107, 3) := by decide +kernel
theorem d_Pr_readSet_4 : decode prog_10_method_15_code 4 = .ok (.ifCond .ne 5, 3) := by decide +kernel
theorem d_Pr_readSet_7 : decode prog_10_method_15_code 7 = .ok (.iconst 0, 1) := by decide +kernel
theorem d_Pr_readSet_8 : decode prog_10_method_15_code 8 = .ok (.ireturn, 1) := by decide +kernel
theorem d_Pr_readSet_9 : decode prog_10_method_15_code 9 = .ok (.aload_n 0, 1) := by decide +kernel
theorem d_Pr_readSet_10 : decode prog_10_method_15_code 10 = .ok (.getfield 9, 3) := by decide +kernel
theorem d_Pr_readSet_13 : decode prog_10_method_15_code 13 = .ok (.dup, 1) := by decide +kernel
theorem d_Pr_readSet_14 : decode prog_10_method_15_code 14 = .ok (.getfield 86, 3) := by decide +kernel
theorem d_Pr_readSet_17 : decode prog_10_method_15_code 17 = .ok (.iconst 1, 1) := by decide +kernel
theorem d_Pr_readSet_18 : decode prog_10_method_15_code 18 = .ok (.iadd, 1) := by decide +kernel
theorem d_Pr_readSet_19 : decode prog_10_method_15_code 19 = .ok (.putfield 86, 3) := by decide +kernel
theorem d_Pr_readSet_22 : decode prog_10_method_15_code 22 = .ok (.aload_n 0, 1) := by decide +kernel
theorem d_Pr_readSet_23 : decode prog_10_method_15_code 23 = .ok (.getfield 9, 3) := by decide +kernel
theorem d_Pr_readSet_26 : decode prog_10_method_15_code 26 = .ok (.iconst 0, 1) := by decide +kernel
theorem d_Pr_readSet_27 : decode prog_10_method_15_code 27 = .ok (.invokevirtual 19, 3) := by decide +kernel
theorem d_Pr_readSet_30 : decode prog_10_method_15_code 30 = .ok (.bipush 94, 2) := by decide +kernel
theorem d_Pr_readSet_32 : decode prog_10_method_15_code 32 = .ok (.if_icmp .ne 7, 3) := by decide +kernel
theorem d_Pr_readSet_35 : decode prog_10_method_15_code 35 = .ok (.iconst 1, 1) := by decide +kernel
theorem d_Pr_readSet_36 : decode prog_10_method_15_code 36 = .ok (.goto 4, 3) := by decide +kernel
theorem d_Pr_readSet_39 : decode prog_10_method_15_code 39 = .ok (.iconst 0, 1) := by decide +kernel
theorem d_Pr_readSet_40 : decode prog_10_method_15_code 40 = .ok (.istore_n 1, 1) := by decide +kernel
theorem d_Pr_readSet_41 : decode prog_10_method_15_code 41 = .ok (.iload_n 1, 1) := by decide +kernel
theorem d_Pr_readSet_42 : decode prog_10_method_15_code 42 = .ok (.ifCond .eq 16, 3) := by decide +kernel
theorem d_Pr_readSet_45 : decode prog_10_method_15_code 45 = .ok (.aload_n 0, 1) := by decide +kernel
theorem d_Pr_readSet_46 : decode prog_10_method_15_code 46 = .ok (.getfield 9, 3) := by decide +kernel
theorem d_Pr_readSet_49 : decode prog_10_method_15_code 49 = .ok (.dup, 1) := by decide +kernel
theorem d_Pr_readSet_50 : decode prog_10_method_15_code 50 = .ok (.getfield 86, 3) := by decide +kernel
theorem d_Pr_readSet_53 : decode prog_10_method_15_code 53 = .ok (.iconst 1, 1) := by decide +kernel
theorem d_Pr_readSet_54 : decode prog_10_method_15_code 54 = .ok (.iadd, 1) := by decide +kernel
theorem d_Pr_readSet_55 : decode prog_10_method_15_code 55 = .ok (.putfield 86, 3) := by decide +kernel
theorem d_Pr_readSet_58 : decode prog_10_method_15_code 58 = .ok (.iconst 0, 1) := by decide +kernel
theorem d_Pr_readSet_59 : decode prog_10_method_15_code 59 = .ok (.istore_n 2, 1) := by decide +kernel
theorem d_Pr_readSet_60 : decode prog_10_method_15_code 60 = .ok (.iconst 0, 1) := by decide +kernel
theorem d_Pr_readSet_61 : decode prog_10_method_15_code 61 = .ok (.istore_n 3, 1) := by decide +kernel
theorem d_Pr_readSet_62 : decode prog_10_method_15_code 62 = .ok (.iload_n 3, 1) := by decide +kernel
theorem d_Pr_readSet_63 : decode prog_10_method_15_code 63 = .ok (.sipush 240, 3) := by decide +kernel
theorem d_Pr_readSet_66 : decode prog_10_method_15_code 66 = .ok (.if_icmp .gt 41, 3) := by decide +kernel
theorem d_Pr_readSet_69 : decode prog_10_method_15_code 69 = .ok (.iload_n 2, 1) := by decide +kernel
theorem d_Pr_readSet_70 : decode prog_10_method_15_code 70 = .ok (.ifCond .ne 37, 3) := by decide +kernel
theorem d_Pr_readSet_73 : decode prog_10_method_15_code 73 = .ok (.aload_n 0, 1) := by decide +kernel
theorem d_Pr_readSet_74 : decode prog_10_method_15_code 74 = .ok (.invokevirtual 132, 3) := by decide +kernel
theorem d_Pr_readSet_77 : decode prog_10_method_15_code 77 = .ok (.ifCond .ne 5, 3) := by decide +kernel
theorem d_Pr_readSet_80 : decode prog_10_method_15_code 80 = .ok (.iconst 0, 1) := by decide +kernel
theorem d_Pr_readSet_81 : decode prog_10_method_15_code 81 = .ok (.ireturn, 1) := by decide +kernel
theorem d_Pr_readSet_82 : decode prog_10_method_15_code 82 = .ok (.aload_n 0, 1) := by decide +kernel
theorem d_Pr_readSet_83 : decode prog_10_method_15_code 83 = .ok (.getfield 9, 3) := by decide +kernel
theorem d_Pr_readSet_86 : decode prog_10_method_15_code 86 = .ok (.iconst 0, 1) := by decide +kernel
theorem d_Pr_readSet_87 : decode prog_10_method_15_code 87 = .ok (.invokevirtual 19, 3) := by decide +kernel
theorem d_Pr_readSet_90 : decode prog_10_method_15_code 90 = .ok (.bipush 93, 2) := by decide +kernel
theorem d_Pr_readSet_92 : decode prog_10_method_15_code 92 = .ok (.if_icmp .ne 7, 3) := by decide +kernel
theorem d_Pr_readSet_95 : decode prog_10_method_15_code 95 = .ok (.iconst 1, 1) := by decide +kernel
theorem d_Pr_readSet_96 : decode prog_10_method_15_code 96 = .ok (.goto 4, 3) := by decide +kernel
theorem d_Pr_readSet_99 : decode prog_10_method_15_code 99 = .ok (.iconst 0, 1) := by decide +kernel
theorem d_Pr_readSet_100 : decode prog_10_method_15_code 100 = .ok (.istore_n 2, 1) := by decide +kernel
theorem d_Pr_readSet_101 : decode prog_10_method_15_code 101 = .ok (.iinc 3 1, 3) := by decide +kernel
theorem d_Pr_readSet_104 : decode prog_10_method_15_code 104 = .ok (.goto (-42), 3) := by decide +kernel
theorem d_Pr_readSet_107 : decode prog_10_method_15_code 107 = .ok (.iload_n 1, 1) := by decide +kernel
theorem d_Pr_readSet_108 : decode prog_10_method_15_code 108 = .ok (.ifCond .eq 10, 3) := by decide +kernel
theorem d_Pr_readSet_111 : decode prog_10_method_15_code 111 = .ok (.aload_n 0, 1) := by decide +kernel
theorem d_Pr_readSet_112 : decode prog_10_method_15_code 112 = .ok (.getfield 62, 3) := by decide +kernel
theorem d_Pr_readSet_115 : decode prog_10_method_15_code 115 = .ok (.invokevirtual 110, 3) := by decide +kernel
theorem d_Pr_readSet_118 : decode prog_10_method_15_code 118 = .ok (.aload_n 0, 1) := by decide +kernel
theorem d_Pr_readSet_119 : decode prog_10_method_15_code 119 = .ok (.getfield 9, 3) := by decide +kernel
theorem d_Pr_readSet_122 : decode prog_10_method_15_code 122 = .ok (.bipush 93, 2) := by decide +kernel
theorem d_Pr_readSet_124 : decode prog_10_method_15_code 124 = .ok (.invokevirtual 55, 3) := by decide +kernel
theorem d_Pr_readSet_127 : decode prog_10_method_15_code 127 = .ok (.ireturn, 1) := by decide +kernel
theorem d_Pr_mayEnd_0 : decode prog_10_method_6_code 0 = .ok (.aload_n 0, 1) := by decide +kernel
theorem d_Pr_mayEnd_1 : decode prog_10_method_6_code 1 = .ok (.getfield 9, 3) := by decide +kernel
theorem d_Pr_mayEnd_4 : decode prog_10_method_6_code 4 = .ok (.iconst 1, 1) := by decide +kernel
theorem d_Pr_mayEnd_5 : decode prog_10_method_6_code 5 = .ok (.invokevirtual 19, 3) := by decide +kernel
theorem d_Pr_mayEnd_8 : decode prog_10_method_6_code 8 = .ok (.istore_n 1, 1) := by decide +kernel
theorem d_Pr_mayEnd_9 : decode prog_10_method_6_code 9 = .ok (.aload_n 0, 1) := by decide +kernel
theorem d_Pr_mayEnd_10 : decode prog_10_method_6_code 10 = .ok (.getfield 47, 3) := by decide +kernel
theorem d_Pr_mayEnd_13 : decode prog_10_method_6_code 13 = .ok (.ifCond .ne 18, 3) := by decide +kernel
theorem d_Pr_mayEnd_16 : decode prog_10_method_6_code 16 = .ok (.iload_n 1, 1) := by decide +kernel
theorem d_Pr_mayEnd_17 : decode prog_10_method_6_code 17 = .ok (.bipush 47, 2) := by decide +kernel
theorem d_Pr_mayEnd_19 : decode prog_10_method_6_code 19 = .ok (.if_icmp .eq 8, 3) := by decide +kernel
theorem d_Pr_mayEnd_22 : decode prog_10_method_6_code 22 = .ok (.iload_n 1, 1) := by decide +kernel
theorem d_Pr_mayEnd_23 : decode prog_10_method_6_code 23 = .ok (.iconst (-1), 1) := by decide +kernel
theorem d_Pr_mayEnd_24 : decode prog_10_method_6_code 24 = .ok (.if_icmp .ne 7, 3) := by decide +kernel
theorem d_Pr_mayEnd_27 : decode prog_10_method_6_code 27 = .ok (.iconst 1, 1) := by decide +kernel
theorem d_Pr_mayEnd_28 : decode prog_10_method_6_code 28 = .ok (.goto 4, 3) := by decide +kernel
theorem d_Pr_mayEnd_31 : decode prog_10_method_6_code 31 = .ok (.iconst 0, 1) := by decide +kernel
theorem d_Pr_mayEnd_32 : decode prog_10_method_6_code 32 = .ok (.ireturn, 1) := by decide +kernel
theorem d_Pr_readEnd_0 : decode prog_10_method_7_code 0 = .ok (.aload_n 0, 1) := by decide +kernel
theorem d_Pr_readEnd_1 : decode prog_10_method_7_code 1 = .ok (.getfield 58, 3) := by decide +kernel
theorem d_Pr_readEnd_4 : decode prog_10_method_7_code 4 = .ok (.iconst 1, 1) := by decide +kernel
theorem d_Pr_readEnd_5 : decode prog_10_method_7_code 5 = .ok (.putfield 80, 3) := by decide +kernel
theorem d_Pr_readEnd_8 : decode prog_10_method_7_code 8 = .ok (.aload_n 0, 1) := by decide +kernel
theorem d_Pr_readEnd_9 : decode prog_10_method_7_code 9 = .ok (.getfield 9, 3) := by decide +kernel
theorem d_Pr_readEnd_12 : decode prog_10_method_7_code 12 = .ok (.dup, 1) := by decide +kernel
theorem d_Pr_readEnd_13 : decode prog_10_method_7_code 13 = .ok (.getfield 86, 3) := by decide +kernel
theorem d_Pr_readEnd_16 : decode prog_10_method_7_code 16 = .ok (.iconst 1, 1) := by decide +kernel
theorem d_Pr_readEnd_17 : decode prog_10_method_7_code 17 = .ok (.iadd, 1) := by decide +kernel
theorem d_Pr_readEnd_18 : decode prog_10_method_7_code 18 = .ok (.putfield 86, 3) := by decide +kernel
theorem d_Pr_readEnd_21 : decode prog_10_method_7_code 21 = .ok (.iconst 1, 1) := by decide +kernel
theorem d_Pr_readEnd_22 : decode prog_10_method_7_code 22 = .ok (.ireturn, 1) := by decide +kernel
theorem d_Pr_readPlain_0 : decode prog_10_method_8_code 0 = .ok (.aload_n 0, 1) := by decide +kernel
theorem d_Pr_readPlain_1 : decode prog_10_method_8_code 1 = .ok (.getfield 9, 3) := by decide +kernel
theorem d_Pr_readPlain_4 : decode prog_10_method_8_code 4 = .ok (.iconst 0, 1) := by decide +kernel
theorem d_Pr_readPlain_5 : decode prog_10_method_8_code 5 = .ok (.invokevirtual 19, 3) := by decide +kernel
theorem d_Pr_readPlain_8 : decode prog_10_method_8_code 8 = .ok (.istore_n 1, 1) := by decide +kernel
theorem d_Pr_readPlain_9 : decode prog_10_method_8_code 9 = .ok (.iload_n 1, 1) := by decide +kernel
theorem d_Pr_readPlain_10 : decode prog_10_method_8_code 10 = .ok (.iconst (-1), 1) := by decide +kernel
theorem d_Pr_readPlain_11 : decode prog_10_method_8_code 11 = .ok (.if_icmp .eq 9, 3) := by decide +kernel
theorem d_Pr_readPlain_14 : decode prog_10_method_8_code 14 = .ok (.iload_n 1, 1) := by decide +kernel
theorem d_Pr_readPlain_15 : decode prog_10_method_8_code 15 = .ok (.bipush 10, 2) := by decide +kernel
theorem d_Pr_readPlain_17 : decode prog_10_method_8_code 17 = .ok (.if_icmp .ne 12, 3) := by decide +kernel
theorem d_Pr_readPlain_20 : decode prog_10_method_8_code 20 = .ok (.aload_n 0, 1) := by decide +kernel
theorem d_Pr_readPlain_21 : decode prog_10_method_8_code 21 = .ok (.getfield 9, 3) := by decide +kernel
theorem d_Pr_readPlain_24 : decode prog_10_method_8_code 24 = .ok (.iconst 0, 1) := by decide +kernel
theorem d_Pr_readPlain_25 : decode prog_10_method_8_code 25 = .ok (.invokevirtual 51, 3) := by decide +kernel
theorem d_Pr_readPlain_28 : decode prog_10_method_8_code 28 = .ok (.ireturn, 1) := by decide +kernel
theorem d_Pr_readPlain_29 : decode prog_10_method_8_code 29 = .ok (.aload_n 0, 1) := by decide +kernel
theorem d_Pr_readPlain_30 : decode prog_10_method_8_code 30 = .ok (.invokevirtual 107, 3) := by decide +kernel
theorem d_Pr_readPlain_33 : decode prog_10_method_8_code 33 = .ok (.ifCond .ne 5, 3) := by decide +kernel
theorem d_Pr_readPlain_36 : decode prog_10_method_8_code 36 = .ok (.iconst 0, 1) := by decide +kernel
theorem d_Pr_readPlain_37 : decode prog_10_method_8_code 37 = .ok (.ireturn, 1) := by decide +kernel
theorem d_Pr_readPlain_38 : decode prog_10_method_8_code 38 = .ok (.iload_n 1, 1) := by decide +kernel
theorem d_Pr_readPlain_39 : decode prog_10_method_8_code 39 = .ok (.bipush 46, 2) := by decide +kernel
theorem d_Pr_readPlain_41 : decode prog_10_method_8_code 41 = .ok (.if_icmp .ne 13, 3) := by decide +kernel
theorem d_Pr_readPlain_44 : decode prog_10_method_8_code 44 = .ok (.aload_n 0, 1) := by decide +kernel
theorem d_Pr_readPlain_45 : decode prog_10_method_8_code 45 = .ok (.getfield 62, 3) := by decide +kernel
theorem d_Pr_readPlain_48 : decode prog_10_method_8_code 48 = .ok (.invokevirtual 110, 3) := by decide +kernel
theorem d_Pr_readPlain_51 : decode prog_10_method_8_code 51 = .ok (.goto 12, 3) := by decide +kernel
theorem d_Pr_readPlain_54 : decode prog_10_method_8_code 54 = .ok (.aload_n 0, 1) := by decide +kernel
theorem d_Pr_readPlain_55 : decode prog_10_method_8_code 55 = .ok (.getfield 62, 3) := by decide +kernel
theorem d_Pr_readPlain_58 : decode prog_10_method_8_code 58 = .ok (.iload_n 1, 1) := by decide +kernel
theorem d_Pr_readPlain_59 : decode prog_10_method_8_code 59 = .ok (.iload_n 1, 1) := by decide +kernel
theorem d_Pr_readPlain_60 : decode prog_10_method_8_code 60 = .ok (.invokevirtual 113, 3) := by decide +kernel
theorem d_Pr_readPlain_63 : decode prog_10_method_8_code 63 = .ok (.aload_n 0, 1) := by decide +kernel
theorem d_Pr_readPlain_64 : decode prog_10_method_8_code 64 = .ok (.getfield 9, 3) := by decide +kernel
theorem d_Pr_readPlain_67 : decode prog_10_method_8_code 67 = .ok (.dup, 1) := by decide +kernel
theorem d_Pr_readPlain_68 : decode prog_10_method_8_code 68 = .ok (.getfield 86, 3) := by decide +kernel
theorem d_Pr_readPlain_71 : decode prog_10_method_8_code 71 = .ok (.iconst 1, 1) := by decide +kernel
theorem d_Pr_readPlain_72 : decode prog_10_method_8_code 72 = .ok (.iadd, 1) := by decide +kernel
theorem d_Pr_readPlain_73 : decode prog_10_method_8_code 73 = .ok (.putfield 86, 3) := by decide +kernel
theorem d_Pr_readPlain_76 : decode prog_10_method_8_code 76 = .ok (.iconst 1, 1) := by decide +kernel
theorem d_Pr_readPlain_77 : decode prog_10_method_8_code 77 = .ok (.ireturn, 1) := by decide +kernel
theorem d_Pr_finish_0 : decode prog_10_method_4_code 0 = .ok (.aload_n 0, 1) := by decide +kernel
theorem d_Pr_finish_1 : decode prog_10_method_4_code 1 = .ok (.getfield 58, 3) := by decide +kernel
theorem d_Pr_finish_4 : decode prog_10_method_4_code 4 = .ok (.aload_n 0, 1) := by decide +kernel
theorem d_Pr_finish_5 : decode prog_10_method_4_code 5 = .ok (.getfield 62, 3) := by decide +kernel
theorem d_Pr_finish_8 : decode prog_10_method_4_code 8 = .ok (.getfield 66, 3) := by decide +kernel
theorem d_Pr_finish_11 : decode prog_10_method_4_code 11 = .ok (.putfield 98, 3) := by decide +kernel
theorem d_Pr_finish_14 : decode prog_10_method_4_code 14 = .ok (.aload_n 0, 1) := by decide +kernel
theorem d_Pr_finish_15 : decode prog_10_method_4_code 15 = .ok (.getfield 92, 3) := by decide +kernel
theorem d_Pr_finish_18 : decode prog_10_method_4_code 18 = .ok (.iconst 1, 1) := by decide +kernel
theorem d_Pr_finish_19 : decode prog_10_method_4_code 19 = .ok (.if_icmp .ge 17, 3) := by decide +kernel
theorem d_Pr_finish_22 : decode prog_10_method_4_code 22 = .ok (.aload_n 0, 1) := by decide +kernel
theorem d_Pr_finish_23 : decode prog_10_method_4_code 23 = .ok (.getfield 58, 3) := by decide +kernel
theorem d_Pr_finish_26 : decode prog_10_method_4_code 26 = .ok (.aload_n 0, 1) := by decide +kernel
theorem d_Pr_finish_27 : decode prog_10_method_4_code 27 = .ok (.getfield 62, 3) := by decide +kernel
theorem d_Pr_finish_30 : decode prog_10_method_4_code 30 = .ok (.getfield 66, 3) := by decide +kernel
theorem d_Pr_finish_33 : decode prog_10_method_4_code 33 = .ok (.putfield 101, 3) := by decide +kernel
theorem d_Pr_finish_36 : decode prog_10_method_4_code 36 = .ok (.aload_n 0, 1) := by decide +kernel
theorem d_Pr_finish_37 : decode prog_10_method_4_code 37 = .ok (.getfield 92, 3) := by decide +kernel
theorem d_Pr_finish_40 : decode prog_10_method_4_code 40 = .ok (.iconst 2, 1) := by decide +kernel
theorem d_Pr_finish_41 : decode prog_10_method_4_code 41 = .ok (.if_icmp .ge 17, 3) := by decide +kernel
theorem d_Pr_finish_44 : decode prog_10_method_4_code 44 = .ok (.aload_n 0, 1) := by decide +kernel
theorem d_Pr_finish_45 : decode prog_10_method_4_code 45 = .ok (.getfield 58, 3) := by decide +kernel
theorem d_Pr_finish_48 : decode prog_10_method_4_code 48 = .ok (.aload_n 0, 1) := by decide +kernel
theorem d_Pr_finish_49 : decode prog_10_method_4_code 49 = .ok (.getfield 62, 3) := by decide +kernel
theorem d_Pr_finish_52 : decode prog_10_method_4_code 52 = .ok (.getfield 66, 3) := by decide +kernel
theorem d_Pr_finish_55 : decode prog_10_method_4_code 55 = .ok (.putfield 104, 3) := by decide +kernel
theorem d_Pr_finish_58 : decode prog_10_method_4_code 58 = .ok (.return_, 1) := by decide +kernel
theorem d_Pr_read_0 : decode prog_10_method_2_code 0 = .ok (.aload_n 0, 1) := by decide +kernel
theorem d_Pr_read_1 : decode prog_10_method_2_code 1 = .ok (.aload_n 1, 1) := by decide +kernel
theorem d_Pr_read_2 : decode prog_10_method_2_code 2 = .ok (.aload_n 2, 1) := by decide +kernel
theorem d_Pr_read_3 : decode prog_10_method_2_code 3 = .ok (.invokevirtual 15, 3) := by decide +kernel
theorem d_Pr_read_6 : decode prog_10_method_2_code 6 = .ok (.iconst 0, 1) := by decide +kernel
theorem d_Pr_read_7 : decode prog_10_method_2_code 7 = .ok (.istore_n 3, 1) := by decide +kernel
theorem d_Pr_read_8 : decode prog_10_method_2_code 8 = .ok (.iload_n 3, 1) := by decide +kernel
theorem d_Pr_read_9 : decode prog_10_method_2_code 9 = .ok (.sipush 240, 3) := by decide +kernel
theorem d_Pr_read_12 : decode prog_10_method_2_code 12 = .ok (.if_icmp .gt 116, 3) := by decide +kernel
theorem d_Pr_read_15 : decode prog_10_method_2_code 15 = .ok (.aload_n 0, 1) := by decide +kernel
theorem d_Pr_read_16 : decode prog_10_method_2_code 16 = .ok (.getfield 9, 3) := by decide +kernel
theorem d_Pr_read_19 : decode prog_10_method_2_code 19 = .ok (.iconst 0, 1) := by decide +kernel
theorem d_Pr_read_20 : decode prog_10_method_2_code 20 = .ok (.invokevirtual 19, 3) := by decide +kernel
theorem d_Pr_read_23 : decode prog_10_method_2_code 23 = .ok (.bipush 47, 2) := by decide +kernel
theorem d_Pr_read_25 : decode prog_10_method_2_code 25 = .ok (.if_icmp .eq 103, 3) := by decide +kernel
theorem d_Pr_read_28 : decode prog_10_method_2_code 28 = .ok (.aload_n 0, 1) := by decide +kernel
theorem d_Pr_read_29 : decode prog_10_method_2_code 29 = .ok (.getfield 9, 3) := by decide +kernel
theorem d_Pr_read_32 : decode prog_10_method_2_code 32 = .ok (.iconst 0, 1) := by decide +kernel
theorem d_Pr_read_33 : decode prog_10_method_2_code 33 = .ok (.invokevirtual 19, 3) := by decide +kernel
theorem d_Pr_read_36 : decode prog_10_method_2_code 36 = .ok (.istore 4, 2) := by decide +kernel
theorem d_Pr_read_38 : decode prog_10_method_2_code 38 = .ok (.iload 4, 2) := by decide +kernel
theorem d_Pr_read_40 : decode prog_10_method_2_code 40 = .ok (.bipush 42, 2) := by decide +kernel
theorem d_Pr_read_42 : decode prog_10_method_2_code 42 = .ok (.if_icmp .ne 12, 3) := by decide +kernel
theorem d_Pr_read_45 : decode prog_10_method_2_code 45 = .ok (.aload_n 0, 1) := by decide +kernel
theorem d_Pr_read_46 : decode prog_10_method_2_code 46 = .ok (.invokevirtual 25, 3) := by decide +kernel
theorem d_Pr_read_49 : decode prog_10_method_2_code 49 = .ok (.istore 5, 2) := by decide +kernel
theorem d_Pr_read_51 : decode prog_10_method_2_code 51 = .ok (.goto 64, 3) := by decide +kernel
theorem d_Pr_read_54 : decode prog_10_method_2_code 54 = .ok (.iload 4, 2) := by decide +kernel
theorem d_Pr_read_56 : decode prog_10_method_2_code 56 = .ok (.bipush 92, 2) := by decide +kernel
theorem d_Pr_read_58 : decode prog_10_method_2_code 58 = .ok (.if_icmp .ne 12, 3) := by decide +kernel
theorem d_Pr_read_61 : decode prog_10_method_2_code 61 = .ok (.aload_n 0, 1) := by decide +kernel
theorem d_Pr_read_62 : decode prog_10_method_2_code 62 = .ok (.invokevirtual 29, 3) := by decide +kernel
theorem d_Pr_read_65 : decode prog_10_method_2_code 65 = .ok (.istore 5, 2) := by decide +kernel
theorem d_Pr_read_67 : decode prog_10_method_2_code 67 = .ok (.goto 48, 3) := by decide +kernel
theorem d_Pr_read_70 : decode prog_10_method_2_code 70 = .ok (.iload 4, 2) := by decide +kernel
theorem d_Pr_read_72 : decode prog_10_method_2_code 72 = .ok (.bipush 91, 2) := by decide +kernel
theorem d_Pr_read_74 : decode prog_10_method_2_code 74 = .ok (.if_icmp .ne 12, 3) := by decide +kernel
theorem d_Pr_read_77 : decode prog_10_method_2_code 77 = .ok (.aload_n 0, 1) := by decide +kernel
theorem d_Pr_read_78 : decode prog_10_method_2_code 78 = .ok (.invokevirtual 32, 3) := by decide +kernel
theorem d_Pr_read_81 : decode prog_10_method_2_code 81 = .ok (.istore 5, 2) := by decide +kernel
theorem d_Pr_read_83 : decode prog_10_method_2_code 83 = .ok (.goto 32, 3) := by decide +kernel
theorem d_Pr_read_86 : decode prog_10_method_2_code 86 = .ok (.iload 4, 2) := by decide +kernel
theorem d_Pr_read_88 : decode prog_10_method_2_code 88 = .ok (.bipush 36, 2) := by decide +kernel
theorem d_Pr_read_90 : decode prog_10_method_2_code 90 = .ok (.if_icmp .ne 19, 3) := by decide +kernel
theorem d_Pr_read_93 : decode prog_10_method_2_code 93 = .ok (.aload_n 0, 1) := by decide +kernel
theorem d_Pr_read_94 : decode prog_10_method_2_code 94 = .ok (.invokevirtual 35, 3) := by decide +kernel
theorem d_Pr_read_97 : decode prog_10_method_2_code 97 = .ok (.ifCond .eq 12, 3) := by decide +kernel
theorem d_Pr_read_100 : decode prog_10_method_2_code 100 = .ok (.aload_n 0, 1) := by decide +kernel
theorem d_Pr_read_101 : decode prog_10_method_2_code 101 = .ok (.invokevirtual 38, 3) := by decide +kernel
theorem d_Pr_read_104 : decode prog_10_method_2_code 104 = .ok (.istore 5, 2) := by decide +kernel
theorem d_Pr_read_106 : decode prog_10_method_2_code 106 = .ok (.goto 9, 3) := by decide +kernel
theorem d_Pr_read_109 : decode prog_10_method_2_code 109 = .ok (.aload_n 0, 1) := by decide +kernel
theorem d_Pr_read_110 : decode prog_10_method_2_code 110 = .ok (.invokevirtual 41, 3) := by decide +kernel
theorem d_Pr_read_113 : decode prog_10_method_2_code 113 = .ok (.istore 5, 2) := by decide +kernel
theorem d_Pr_read_115 : decode prog_10_method_2_code 115 = .ok (.iload 5, 2) := by decide +kernel
theorem d_Pr_read_117 : decode prog_10_method_2_code 117 = .ok (.ifCond .ne 5, 3) := by decide +kernel
theorem d_Pr_read_120 : decode prog_10_method_2_code 120 = .ok (.iconst 0, 1) := by decide +kernel
theorem d_Pr_read_121 : decode prog_10_method_2_code 121 = .ok (.ireturn, 1) := by decide +kernel
theorem d_Pr_read_122 : decode prog_10_method_2_code 122 = .ok (.iinc 3 1, 3) := by decide +kernel
theorem d_Pr_read_125 : decode prog_10_method_2_code 125 = .ok (.goto (-117), 3) := by decide +kernel
theorem d_Pr_read_128 : decode prog_10_method_2_code 128 = .ok (.aload_n 0, 1) := by decide +kernel
theorem d_Pr_read_129 : decode prog_10_method_2_code 129 = .ok (.invokevirtual 44, 3) := by decide +kernel
theorem d_Pr_read_132 : decode prog_10_method_2_code 132 = .ok (.aload_n 0, 1) := by decide +kernel
theorem d_Pr_read_133 : decode prog_10_method_2_code 133 = .ok (.getfield 47, 3) := by decide +kernel
theorem d_Pr_read_136 : decode prog_10_method_2_code 136 = .ok (.ifCond .eq 14, 3) := by decide +kernel
theorem d_Pr_read_139 : decode prog_10_method_2_code 139 = .ok (.aload_n 0, 1) := by decide +kernel
theorem d_Pr_read_140 : decode prog_10_method_2_code 140 = .ok (.getfield 9, 3) := by decide +kernel
theorem d_Pr_read_143 : decode prog_10_method_2_code 143 = .ok (.iconst 0, 1) := by decide +kernel
theorem d_Pr_read_144 : decode prog_10_method_2_code 144 = .ok (.invokevirtual 51, 3) := by decide +kernel
theorem d_Pr_read_147 : decode prog_10_method_2_code 147 = .ok (.goto 12, 3) := by decide +kernel
theorem d_Pr_read_150 : decode prog_10_method_2_code 150 = .ok (.aload_n 0, 1) := by decide +kernel
theorem d_Pr_read_151 : decode prog_10_method_2_code 151 = .ok (.getfield 9, 3) := by decide +kernel
theorem d_Pr_read_154 : decode prog_10_method_2_code 154 = .ok (.bipush 47, 2) := by decide +kernel
theorem d_Pr_read_156 : decode prog_10_method_2_code 156 = .ok (.invokevirtual 55, 3) := by decide +kernel
theorem d_Pr_read_159 : decode prog_10_method_2_code 159 = .ok (.ireturn, 1) := by decide +kernel
