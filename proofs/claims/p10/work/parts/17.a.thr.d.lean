theorem d_Ed_tell_0 : decode prog_5_method_9_code 0 = .ok (.aload_n 0, 1) := by decide +kernel
theorem d_Ed_tell_1 : decode prog_5_method_9_code 1 = .ok (.getfield 14, 3) := by decide +kernel
theorem d_Ed_tell_4 : decode prog_5_method_9_code 4 = .ok (.iload_n 3, 1) := by decide +kernel
theorem d_Ed_tell_5 : decode prog_5_method_9_code 5 = .ok (.iload_n 2, 1) := by decide +kernel
theorem d_Ed_tell_6 : decode prog_5_method_9_code 6 = .ok (.isub, 1) := by decide +kernel
theorem d_Ed_tell_7 : decode prog_5_method_9_code 7 = .ok (.iconst 1, 1) := by decide +kernel
theorem d_Ed_tell_8 : decode prog_5_method_9_code 8 = .ok (.iadd, 1) := by decide +kernel
theorem d_Ed_tell_9 : decode prog_5_method_9_code 9 = .ok (.invokevirtual 136, 3) := by decide +kernel
theorem d_Ed_tell_12 : decode prog_5_method_9_code 12 = .ok (.ifCond .ne 11, 3) := by decide +kernel
theorem d_Ed_tell_15 : decode prog_5_method_9_code 15 = .ok (.new 140, 3) := by decide +kernel
theorem d_Ed_tell_18 : decode prog_5_method_9_code 18 = .ok (.dup, 1) := by decide +kernel
theorem d_Ed_tell_19 : decode prog_5_method_9_code 19 = .ok (.invokespecial 142, 3) := by decide +kernel
theorem d_Ed_tell_22 : decode prog_5_method_9_code 22 = .ok (.athrow, 1) := by decide +kernel
theorem d_Ed_tell_23 : decode prog_5_method_9_code 23 = .ok (.aload_n 0, 1) := by decide +kernel
theorem d_Ed_tell_24 : decode prog_5_method_9_code 24 = .ok (.getfield 14, 3) := by decide +kernel
theorem d_Ed_tell_27 : decode prog_5_method_9_code 27 = .ok (.aload_n 1, 1) := by decide +kernel
theorem d_Ed_tell_28 : decode prog_5_method_9_code 28 = .ok (.iload_n 2, 1) := by decide +kernel
theorem d_Ed_tell_29 : decode prog_5_method_9_code 29 = .ok (.iload_n 3, 1) := by decide +kernel
theorem d_Ed_tell_30 : decode prog_5_method_9_code 30 = .ok (.invokevirtual 126, 3) := by decide +kernel
theorem d_Ed_tell_33 : decode prog_5_method_9_code 33 = .ok (.aload_n 0, 1) := by decide +kernel
theorem d_Ed_tell_34 : decode prog_5_method_9_code 34 = .ok (.getfield 14, 3) := by decide +kernel
theorem d_Ed_tell_37 : decode prog_5_method_9_code 37 = .ok (.bipush 10, 2) := by decide +kernel
theorem d_Ed_tell_39 : decode prog_5_method_9_code 39 = .ok (.invokevirtual 143, 3) := by decide +kernel
theorem d_Ed_tell_42 : decode prog_5_method_9_code 42 = .ok (.return_, 1) := by decide +kernel
theorem d_Ed_tellAppended_0 : decode prog_5_method_10_code 0 = .ok (.iconst 0, 1) := by decide +kernel
theorem d_Ed_tellAppended_1 : decode prog_5_method_10_code 1 = .ok (.istore_n 1, 1) := by decide +kernel
theorem d_Ed_tellAppended_2 : decode prog_5_method_10_code 2 = .ok (.iconst 0, 1) := by decide +kernel
theorem d_Ed_tellAppended_3 : decode prog_5_method_10_code 3 = .ok (.istore_n 2, 1) := by decide +kernel
theorem d_Ed_tellAppended_4 : decode prog_5_method_10_code 4 = .ok (.iload_n 2, 1) := by decide +kernel
theorem d_Ed_tellAppended_5 : decode prog_5_method_10_code 5 = .ok (.aload_n 0, 1) := by decide +kernel
theorem d_Ed_tellAppended_6 : decode prog_5_method_10_code 6 = .ok (.getfield 26, 3) := by decide +kernel
theorem d_Ed_tellAppended_9 : decode prog_5_method_10_code 9 = .ok (.getfield 123, 3) := by decide +kernel
theorem d_Ed_tellAppended_12 : decode prog_5_method_10_code 12 = .ok (.if_icmp .ge 37, 3) := by decide +kernel
theorem d_Ed_tellAppended_15 : decode prog_5_method_10_code 15 = .ok (.aload_n 0, 1) := by decide +kernel
theorem d_Ed_tellAppended_16 : decode prog_5_method_10_code 16 = .ok (.getfield 26, 3) := by decide +kernel
theorem d_Ed_tellAppended_19 : decode prog_5_method_10_code 19 = .ok (.getfield 146, 3) := by decide +kernel
theorem d_Ed_tellAppended_22 : decode prog_5_method_10_code 22 = .ok (.iload_n 2, 1) := by decide +kernel
theorem d_Ed_tellAppended_23 : decode prog_5_method_10_code 23 = .ok (.caload, 1) := by decide +kernel
theorem d_Ed_tellAppended_24 : decode prog_5_method_10_code 24 = .ok (.bipush 10, 2) := by decide +kernel
theorem d_Ed_tellAppended_26 : decode prog_5_method_10_code 26 = .ok (.if_icmp .ne 17, 3) := by decide +kernel
theorem d_Ed_tellAppended_29 : decode prog_5_method_10_code 29 = .ok (.aload_n 0, 1) := by decide +kernel
theorem d_Ed_tellAppended_30 : decode prog_5_method_10_code 30 = .ok (.aload_n 0, 1) := by decide +kernel
theorem d_Ed_tellAppended_31 : decode prog_5_method_10_code 31 = .ok (.getfield 26, 3) := by decide +kernel
theorem d_Ed_tellAppended_34 : decode prog_5_method_10_code 34 = .ok (.iload_n 1, 1) := by decide +kernel
theorem d_Ed_tellAppended_35 : decode prog_5_method_10_code 35 = .ok (.iload_n 2, 1) := by decide +kernel
theorem d_Ed_tellAppended_36 : decode prog_5_method_10_code 36 = .ok (.invokevirtual 130, 3) := by decide +kernel
theorem d_Ed_tellAppended_39 : decode prog_5_method_10_code 39 = .ok (.iload_n 2, 1) := by decide +kernel
theorem d_Ed_tellAppended_40 : decode prog_5_method_10_code 40 = .ok (.iconst 1, 1) := by decide +kernel
theorem d_Ed_tellAppended_41 : decode prog_5_method_10_code 41 = .ok (.iadd, 1) := by decide +kernel
theorem d_Ed_tellAppended_42 : decode prog_5_method_10_code 42 = .ok (.istore_n 1, 1) := by decide +kernel
theorem d_Ed_tellAppended_43 : decode prog_5_method_10_code 43 = .ok (.iinc 2 1, 3) := by decide +kernel
theorem d_Ed_tellAppended_46 : decode prog_5_method_10_code 46 = .ok (.goto (-42), 3) := by decide +kernel
theorem d_Ed_tellAppended_49 : decode prog_5_method_10_code 49 = .ok (.aload_n 0, 1) := by decide +kernel
theorem d_Ed_tellAppended_50 : decode prog_5_method_10_code 50 = .ok (.getfield 26, 3) := by decide +kernel
theorem d_Ed_tellAppended_53 : decode prog_5_method_10_code 53 = .ok (.invokevirtual 96, 3) := by decide +kernel
theorem d_Ed_tellAppended_56 : decode prog_5_method_10_code 56 = .ok (.return_, 1) := by decide +kernel
theorem d_Ed_endCycle_0 : decode prog_5_method_7_code 0 = .ok (.iload_n 1, 1) := by decide +kernel
theorem d_Ed_endCycle_1 : decode prog_5_method_7_code 1 = .ok (.ifCond .eq 19, 3) := by decide +kernel
theorem d_Ed_endCycle_4 : decode prog_5_method_7_code 4 = .ok (.aload_n 0, 1) := by decide +kernel
theorem d_Ed_endCycle_5 : decode prog_5_method_7_code 5 = .ok (.aload_n 0, 1) := by decide +kernel
theorem d_Ed_endCycle_6 : decode prog_5_method_7_code 6 = .ok (.getfield 20, 3) := by decide +kernel
theorem d_Ed_endCycle_9 : decode prog_5_method_7_code 9 = .ok (.iconst 0, 1) := by decide +kernel
theorem d_Ed_endCycle_10 : decode prog_5_method_7_code 10 = .ok (.aload_n 0, 1) := by decide +kernel
theorem d_Ed_endCycle_11 : decode prog_5_method_7_code 11 = .ok (.getfield 20, 3) := by decide +kernel
theorem d_Ed_endCycle_14 : decode prog_5_method_7_code 14 = .ok (.getfield 123, 3) := by decide +kernel
theorem d_Ed_endCycle_17 : decode prog_5_method_7_code 17 = .ok (.invokevirtual 130, 3) := by decide +kernel
theorem d_Ed_endCycle_20 : decode prog_5_method_7_code 20 = .ok (.aload_n 0, 1) := by decide +kernel
theorem d_Ed_endCycle_21 : decode prog_5_method_7_code 21 = .ok (.invokevirtual 133, 3) := by decide +kernel
theorem d_Ed_endCycle_24 : decode prog_5_method_7_code 24 = .ok (.aload_n 0, 1) := by decide +kernel
theorem d_Ed_endCycle_25 : decode prog_5_method_7_code 25 = .ok (.invokevirtual 111, 3) := by decide +kernel
theorem d_Ed_endCycle_28 : decode prog_5_method_7_code 28 = .ok (.return_, 1) := by decide +kernel
theorem d_Ed_draftPart_0 : decode prog_5_method_28_code 0 = .ok (.aload_n 0, 1) := by decide +kernel
theorem d_Ed_draftPart_1 : decode prog_5_method_28_code 1 = .ok (.getfield 36, 3) := by decide +kernel
theorem d_Ed_draftPart_4 : decode prog_5_method_28_code 4 = .ok (.iload_n 2, 1) := by decide +kernel
theorem d_Ed_draftPart_5 : decode prog_5_method_28_code 5 = .ok (.iload_n 1, 1) := by decide +kernel
theorem d_Ed_draftPart_6 : decode prog_5_method_28_code 6 = .ok (.isub, 1) := by decide +kernel
theorem d_Ed_draftPart_7 : decode prog_5_method_28_code 7 = .ok (.invokevirtual 136, 3) := by decide +kernel
theorem d_Ed_draftPart_10 : decode prog_5_method_28_code 10 = .ok (.ifCond .ne 11, 3) := by decide +kernel
theorem d_Ed_draftPart_13 : decode prog_5_method_28_code 13 = .ok (.new 140, 3) := by decide +kernel
theorem d_Ed_draftPart_16 : decode prog_5_method_28_code 16 = .ok (.dup, 1) := by decide +kernel
theorem d_Ed_draftPart_17 : decode prog_5_method_28_code 17 = .ok (.invokespecial 142, 3) := by decide +kernel
theorem d_Ed_draftPart_20 : decode prog_5_method_28_code 20 = .ok (.athrow, 1) := by decide +kernel
theorem d_Ed_draftPart_21 : decode prog_5_method_28_code 21 = .ok (.aload_n 0, 1) := by decide +kernel
theorem d_Ed_draftPart_22 : decode prog_5_method_28_code 22 = .ok (.getfield 36, 3) := by decide +kernel
theorem d_Ed_draftPart_25 : decode prog_5_method_28_code 25 = .ok (.aload_n 0, 1) := by decide +kernel
theorem d_Ed_draftPart_26 : decode prog_5_method_28_code 26 = .ok (.getfield 20, 3) := by decide +kernel
theorem d_Ed_draftPart_29 : decode prog_5_method_28_code 29 = .ok (.iload_n 1, 1) := by decide +kernel
theorem d_Ed_draftPart_30 : decode prog_5_method_28_code 30 = .ok (.iload_n 2, 1) := by decide +kernel
theorem d_Ed_draftPart_31 : decode prog_5_method_28_code 31 = .ok (.invokevirtual 126, 3) := by decide +kernel
theorem d_Ed_draftPart_34 : decode prog_5_method_28_code 34 = .ok (.return_, 1) := by decide +kernel
theorem d_Ed_draftCharacter_0 : decode prog_5_method_30_code 0 = .ok (.aload_n 0, 1) := by decide +kernel
theorem d_Ed_draftCharacter_1 : decode prog_5_method_30_code 1 = .ok (.getfield 36, 3) := by decide +kernel
theorem d_Ed_draftCharacter_4 : decode prog_5_method_30_code 4 = .ok (.iconst 1, 1) := by decide +kernel
theorem d_Ed_draftCharacter_5 : decode prog_5_method_30_code 5 = .ok (.invokevirtual 136, 3) := by decide +kernel
theorem d_Ed_draftCharacter_8 : decode prog_5_method_30_code 8 = .ok (.ifCond .ne 11, 3) := by decide +kernel
theorem d_Ed_draftCharacter_11 : decode prog_5_method_30_code 11 = .ok (.new 140, 3) := by decide +kernel
theorem d_Ed_draftCharacter_14 : decode prog_5_method_30_code 14 = .ok (.dup, 1) := by decide +kernel
theorem d_Ed_draftCharacter_15 : decode prog_5_method_30_code 15 = .ok (.invokespecial 142, 3) := by decide +kernel
theorem d_Ed_draftCharacter_18 : decode prog_5_method_30_code 18 = .ok (.athrow, 1) := by decide +kernel
theorem d_Ed_draftCharacter_19 : decode prog_5_method_30_code 19 = .ok (.aload_n 0, 1) := by decide +kernel
theorem d_Ed_draftCharacter_20 : decode prog_5_method_30_code 20 = .ok (.getfield 36, 3) := by decide +kernel
theorem d_Ed_draftCharacter_23 : decode prog_5_method_30_code 23 = .ok (.iload_n 1, 1) := by decide +kernel
theorem d_Ed_draftCharacter_24 : decode prog_5_method_30_code 24 = .ok (.invokevirtual 143, 3) := by decide +kernel
theorem d_Ed_draftCharacter_27 : decode prog_5_method_30_code 27 = .ok (.return_, 1) := by decide +kernel
theorem d_Ed_draftReplacement_0 : decode prog_5_method_29_code 0 = .ok (.aload_n 1, 1) := by decide +kernel
theorem d_Ed_draftReplacement_1 : decode prog_5_method_29_code 1 = .ok (.getfield 206, 3) := by decide +kernel
theorem d_Ed_draftReplacement_4 : decode prog_5_method_29_code 4 = .ok (.istore_n 2, 1) := by decide +kernel
theorem d_Ed_draftReplacement_5 : decode prog_5_method_29_code 5 = .ok (.iload_n 2, 1) := by decide +kernel
theorem d_Ed_draftReplacement_6 : decode prog_5_method_29_code 6 = .ok (.aload_n 1, 1) := by decide +kernel
theorem d_Ed_draftReplacement_7 : decode prog_5_method_29_code 7 = .ok (.getfield 209, 3) := by decide +kernel
theorem d_Ed_draftReplacement_10 : decode prog_5_method_29_code 10 = .ok (.if_icmp .ge 128, 3) := by decide +kernel
theorem d_Ed_draftReplacement_13 : decode prog_5_method_29_code 13 = .ok (.aload_n 0, 1) := by decide +kernel
theorem d_Ed_draftReplacement_14 : decode prog_5_method_29_code 14 = .ok (.getfield 39, 3) := by decide +kernel
theorem d_Ed_draftReplacement_17 : decode prog_5_method_29_code 17 = .ok (.getfield 203, 3) := by decide +kernel
theorem d_Ed_draftReplacement_20 : decode prog_5_method_29_code 20 = .ok (.iload_n 2, 1) := by decide +kernel
theorem d_Ed_draftReplacement_21 : decode prog_5_method_29_code 21 = .ok (.invokevirtual 247, 3) := by decide +kernel
theorem d_Ed_draftReplacement_24 : decode prog_5_method_29_code 24 = .ok (.istore_n 3, 1) := by decide +kernel
theorem d_Ed_draftReplacement_25 : decode prog_5_method_29_code 25 = .ok (.iload_n 3, 1) := by decide +kernel
theorem d_Ed_draftReplacement_26 : decode prog_5_method_29_code 26 = .ok (.bipush 38, 2) := by decide +kernel
theorem d_Ed_draftReplacement_28 : decode prog_5_method_29_code 28 = .ok (.if_icmp .ne 24, 3) := by decide +kernel
theorem d_Ed_draftReplacement_31 : decode prog_5_method_29_code 31 = .ok (.aload_n 0, 1) := by decide +kernel
theorem d_Ed_draftReplacement_32 : decode prog_5_method_29_code 32 = .ok (.aload_n 0, 1) := by decide +kernel
theorem d_Ed_draftReplacement_33 : decode prog_5_method_29_code 33 = .ok (.getfield 32, 3) := by decide +kernel
theorem d_Ed_draftReplacement_36 : decode prog_5_method_29_code 36 = .ok (.getfield 257, 3) := by decide +kernel
theorem d_Ed_draftReplacement_39 : decode prog_5_method_29_code 39 = .ok (.aload_n 0, 1) := by decide +kernel
theorem d_Ed_draftReplacement_40 : decode prog_5_method_29_code 40 = .ok (.getfield 32, 3) := by decide +kernel
theorem d_Ed_draftReplacement_43 : decode prog_5_method_29_code 43 = .ok (.getfield 259, 3) := by decide +kernel
theorem d_Ed_draftReplacement_46 : decode prog_5_method_29_code 46 = .ok (.invokevirtual 265, 3) := by decide +kernel
theorem d_Ed_draftReplacement_49 : decode prog_5_method_29_code 49 = .ok (.goto 83, 3) := by decide +kernel
theorem d_Ed_draftReplacement_52 : decode prog_5_method_29_code 52 = .ok (.iload_n 3, 1) := by decide +kernel
theorem d_Ed_draftReplacement_53 : decode prog_5_method_29_code 53 = .ok (.bipush 92, 2) := by decide +kernel
theorem d_Ed_draftReplacement_55 : decode prog_5_method_29_code 55 = .ok (.if_icmp .ne 72, 3) := by decide +kernel
theorem d_Ed_draftReplacement_58 : decode prog_5_method_29_code 58 = .ok (.iinc 2 1, 3) := by decide +kernel
theorem d_Ed_draftReplacement_61 : decode prog_5_method_29_code 61 = .ok (.aload_n 0, 1) := by decide +kernel
theorem d_Ed_draftReplacement_62 : decode prog_5_method_29_code 62 = .ok (.getfield 39, 3) := by decide +kernel
theorem d_Ed_draftReplacement_65 : decode prog_5_method_29_code 65 = .ok (.getfield 203, 3) := by decide +kernel
theorem d_Ed_draftReplacement_68 : decode prog_5_method_29_code 68 = .ok (.iload_n 2, 1) := by decide +kernel
theorem d_Ed_draftReplacement_69 : decode prog_5_method_29_code 69 = .ok (.invokevirtual 247, 3) := by decide +kernel
theorem d_Ed_draftReplacement_72 : decode prog_5_method_29_code 72 = .ok (.istore_n 3, 1) := by decide +kernel
theorem d_Ed_draftReplacement_73 : decode prog_5_method_29_code 73 = .ok (.iload_n 3, 1) := by decide +kernel
theorem d_Ed_draftReplacement_74 : decode prog_5_method_29_code 74 = .ok (.bipush 49, 2) := by decide +kernel
theorem d_Ed_draftReplacement_76 : decode prog_5_method_29_code 76 = .ok (.if_icmp .lt 38, 3) := by decide +kernel
theorem d_Ed_draftReplacement_79 : decode prog_5_method_29_code 79 = .ok (.iload_n 3, 1) := by decide +kernel
theorem d_Ed_draftReplacement_80 : decode prog_5_method_29_code 80 = .ok (.bipush 51, 2) := by decide +kernel
theorem d_Ed_draftReplacement_82 : decode prog_5_method_29_code 82 = .ok (.if_icmp .gt 32, 3) := by decide +kernel
theorem d_Ed_draftReplacement_85 : decode prog_5_method_29_code 85 = .ok (.aload_n 0, 1) := by decide +kernel
theorem d_Ed_draftReplacement_86 : decode prog_5_method_29_code 86 = .ok (.aload_n 0, 1) := by decide +kernel
theorem d_Ed_draftReplacement_87 : decode prog_5_method_29_code 87 = .ok (.getfield 32, 3) := by decide +kernel
theorem d_Ed_draftReplacement_90 : decode prog_5_method_29_code 90 = .ok (.iload_n 3, 1) := by decide +kernel
theorem d_Ed_draftReplacement_91 : decode prog_5_method_29_code 91 = .ok (.bipush 48, 2) := by decide +kernel
theorem d_Ed_draftReplacement_93 : decode prog_5_method_29_code 93 = .ok (.isub, 1) := by decide +kernel
theorem d_Ed_draftReplacement_94 : decode prog_5_method_29_code 94 = .ok (.invokevirtual 279, 3) := by decide +kernel
theorem d_Ed_draftReplacement_97 : decode prog_5_method_29_code 97 = .ok (.aload_n 0, 1) := by decide +kernel
theorem d_Ed_draftReplacement_98 : decode prog_5_method_29_code 98 = .ok (.getfield 32, 3) := by decide +kernel
theorem d_Ed_draftReplacement_101 : decode prog_5_method_29_code 101 = .ok (.iload_n 3, 1) := by decide +kernel
theorem d_Ed_draftReplacement_102 : decode prog_5_method_29_code 102 = .ok (.bipush 48, 2) := by decide +kernel
theorem d_Ed_draftReplacement_104 : decode prog_5_method_29_code 104 = .ok (.isub, 1) := by decide +kernel
theorem d_Ed_draftReplacement_105 : decode prog_5_method_29_code 105 = .ok (.invokevirtual 282, 3) := by decide +kernel
theorem d_Ed_draftReplacement_108 : decode prog_5_method_29_code 108 = .ok (.invokevirtual 265, 3) := by decide +kernel
theorem d_Ed_draftReplacement_111 : decode prog_5_method_29_code 111 = .ok (.goto 21, 3) := by decide +kernel
theorem d_Ed_draftReplacement_114 : decode prog_5_method_29_code 114 = .ok (.iload_n 3, 1) := by decide +kernel
theorem d_Ed_draftReplacement_115 : decode prog_5_method_29_code 115 = .ok (.bipush 110, 2) := by decide +kernel
theorem d_Ed_draftReplacement_117 : decode prog_5_method_29_code 117 = .ok (.if_icmp .ne 8, 3) := by decide +kernel
theorem d_Ed_draftReplacement_120 : decode prog_5_method_29_code 120 = .ok (.bipush 10, 2) := by decide +kernel
theorem d_Ed_draftReplacement_122 : decode prog_5_method_29_code 122 = .ok (.goto 4, 3) := by decide +kernel
theorem d_Ed_draftReplacement_125 : decode prog_5_method_29_code 125 = .ok (.iload_n 3, 1) := by decide +kernel
theorem d_Ed_draftReplacement_126 : decode prog_5_method_29_code 126 = .ok (.istore_n 3, 1) := by decide +kernel
theorem d_Ed_draftReplacement_127 : decode prog_5_method_29_code 127 = .ok (.aload_n 0, 1) := by decide +kernel
theorem d_Ed_draftReplacement_128 : decode prog_5_method_29_code 128 = .ok (.iload_n 3, 1) := by decide +kernel
theorem d_Ed_draftReplacement_129 : decode prog_5_method_29_code 129 = .ok (.invokevirtual 285, 3) := by decide +kernel
theorem d_Ed_draftReplacement_132 : decode prog_5_method_29_code 132 = .ok (.iinc 2 1, 3) := by decide +kernel
theorem d_Ed_draftReplacement_135 : decode prog_5_method_29_code 135 = .ok (.goto (-130), 3) := by decide +kernel
theorem d_Ed_draftReplacement_138 : decode prog_5_method_29_code 138 = .ok (.return_, 1) := by decide +kernel
theorem d_Ed_takeDraft_0 : decode prog_5_method_27_code 0 = .ok (.aload_n 1, 1) := by decide +kernel
theorem d_Ed_takeDraft_1 : decode prog_5_method_27_code 1 = .ok (.getfield 276, 3) := by decide +kernel
theorem d_Ed_takeDraft_4 : decode prog_5_method_27_code 4 = .ok (.ifCond .eq 30, 3) := by decide +kernel
theorem d_Ed_takeDraft_7 : decode prog_5_method_27_code 7 = .ok (.aload_n 0, 1) := by decide +kernel
theorem d_Ed_takeDraft_8 : decode prog_5_method_27_code 8 = .ok (.getfield 14, 3) := by decide +kernel
theorem d_Ed_takeDraft_11 : decode prog_5_method_27_code 11 = .ok (.aload_n 0, 1) := by decide +kernel
theorem d_Ed_takeDraft_12 : decode prog_5_method_27_code 12 = .ok (.getfield 36, 3) := by decide +kernel
theorem d_Ed_takeDraft_15 : decode prog_5_method_27_code 15 = .ok (.getfield 123, 3) := by decide +kernel
theorem d_Ed_takeDraft_18 : decode prog_5_method_27_code 18 = .ok (.iconst 1, 1) := by decide +kernel
theorem d_Ed_takeDraft_19 : decode prog_5_method_27_code 19 = .ok (.iadd, 1) := by decide +kernel
theorem d_Ed_takeDraft_20 : decode prog_5_method_27_code 20 = .ok (.invokevirtual 136, 3) := by decide +kernel
theorem d_Ed_takeDraft_23 : decode prog_5_method_27_code 23 = .ok (.ifCond .ne 11, 3) := by decide +kernel
theorem d_Ed_takeDraft_26 : decode prog_5_method_27_code 26 = .ok (.new 140, 3) := by decide +kernel
theorem d_Ed_takeDraft_29 : decode prog_5_method_27_code 29 = .ok (.dup, 1) := by decide +kernel
theorem d_Ed_takeDraft_30 : decode prog_5_method_27_code 30 = .ok (.invokespecial 142, 3) := by decide +kernel
theorem d_Ed_takeDraft_33 : decode prog_5_method_27_code 33 = .ok (.athrow, 1) := by decide +kernel
theorem d_Ed_takeDraft_34 : decode prog_5_method_27_code 34 = .ok (.aload_n 0, 1) := by decide +kernel
theorem d_Ed_takeDraft_35 : decode prog_5_method_27_code 35 = .ok (.getfield 20, 3) := by decide +kernel
theorem d_Ed_takeDraft_38 : decode prog_5_method_27_code 38 = .ok (.astore_n 3, 1) := by decide +kernel
theorem d_Ed_takeDraft_39 : decode prog_5_method_27_code 39 = .ok (.aload_n 0, 1) := by decide +kernel
theorem d_Ed_takeDraft_40 : decode prog_5_method_27_code 40 = .ok (.aload_n 0, 1) := by decide +kernel
theorem d_Ed_takeDraft_41 : decode prog_5_method_27_code 41 = .ok (.getfield 36, 3) := by decide +kernel
theorem d_Ed_takeDraft_44 : decode prog_5_method_27_code 44 = .ok (.putfield 20, 3) := by decide +kernel
theorem d_Ed_takeDraft_47 : decode prog_5_method_27_code 47 = .ok (.aload_n 0, 1) := by decide +kernel
theorem d_Ed_takeDraft_48 : decode prog_5_method_27_code 48 = .ok (.aload_n 3, 1) := by decide +kernel
theorem d_Ed_takeDraft_49 : decode prog_5_method_27_code 49 = .ok (.putfield 36, 3) := by decide +kernel
theorem d_Ed_takeDraft_52 : decode prog_5_method_27_code 52 = .ok (.aload_n 0, 1) := by decide +kernel
theorem d_Ed_takeDraft_53 : decode prog_5_method_27_code 53 = .ok (.dup, 1) := by decide +kernel
theorem d_Ed_takeDraft_54 : decode prog_5_method_27_code 54 = .ok (.getfield 105, 3) := by decide +kernel
theorem d_Ed_takeDraft_57 : decode prog_5_method_27_code 57 = .ok (.iload_n 2, 1) := by decide +kernel
theorem d_Ed_takeDraft_58 : decode prog_5_method_27_code 58 = .ok (.iadd, 1) := by decide +kernel
theorem d_Ed_takeDraft_59 : decode prog_5_method_27_code 59 = .ok (.putfield 105, 3) := by decide +kernel
theorem d_Ed_takeDraft_62 : decode prog_5_method_27_code 62 = .ok (.aload_n 0, 1) := by decide +kernel
theorem d_Ed_takeDraft_63 : decode prog_5_method_27_code 63 = .ok (.iconst 1, 1) := by decide +kernel
theorem d_Ed_takeDraft_64 : decode prog_5_method_27_code 64 = .ok (.putfield 120, 3) := by decide +kernel
theorem d_Ed_takeDraft_67 : decode prog_5_method_27_code 67 = .ok (.aload_n 1, 1) := by decide +kernel
theorem d_Ed_takeDraft_68 : decode prog_5_method_27_code 68 = .ok (.getfield 276, 3) := by decide +kernel
theorem d_Ed_takeDraft_71 : decode prog_5_method_27_code 71 = .ok (.ifCond .eq 19, 3) := by decide +kernel
theorem d_Ed_takeDraft_74 : decode prog_5_method_27_code 74 = .ok (.aload_n 0, 1) := by decide +kernel
theorem d_Ed_takeDraft_75 : decode prog_5_method_27_code 75 = .ok (.aload_n 0, 1) := by decide +kernel
theorem d_Ed_takeDraft_76 : decode prog_5_method_27_code 76 = .ok (.getfield 20, 3) := by decide +kernel
theorem d_Ed_takeDraft_79 : decode prog_5_method_27_code 79 = .ok (.iconst 0, 1) := by decide +kernel
theorem d_Ed_takeDraft_80 : decode prog_5_method_27_code 80 = .ok (.aload_n 0, 1) := by decide +kernel
theorem d_Ed_takeDraft_81 : decode prog_5_method_27_code 81 = .ok (.getfield 20, 3) := by decide +kernel
theorem d_Ed_takeDraft_84 : decode prog_5_method_27_code 84 = .ok (.getfield 123, 3) := by decide +kernel
theorem d_Ed_takeDraft_87 : decode prog_5_method_27_code 87 = .ok (.invokevirtual 130, 3) := by decide +kernel
theorem d_Ed_takeDraft_90 : decode prog_5_method_27_code 90 = .ok (.return_, 1) := by decide +kernel
theorem d_Ed_substitute_0 : decode prog_5_method_26_code 0 = .ok (.aload_n 0, 1) := by decide +kernel
theorem d_Ed_substitute_1 : decode prog_5_method_26_code 1 = .ok (.getfield 36, 3) := by decide +kernel
theorem d_Ed_substitute_4 : decode prog_5_method_26_code 4 = .ok (.invokevirtual 96, 3) := by decide +kernel
theorem d_Ed_substitute_7 : decode prog_5_method_26_code 7 = .ok (.iconst 0, 1) := by decide +kernel
theorem d_Ed_substitute_8 : decode prog_5_method_26_code 8 = .ok (.istore_n 2, 1) := by decide +kernel
theorem d_Ed_substitute_9 : decode prog_5_method_26_code 9 = .ok (.iconst 0, 1) := by decide +kernel
theorem d_Ed_substitute_10 : decode prog_5_method_26_code 10 = .ok (.istore_n 3, 1) := by decide +kernel
theorem d_Ed_substitute_11 : decode prog_5_method_26_code 11 = .ok (.iconst 0, 1) := by decide +kernel
theorem d_Ed_substitute_12 : decode prog_5_method_26_code 12 = .ok (.istore 4, 2) := by decide +kernel
theorem d_Ed_substitute_14 : decode prog_5_method_26_code 14 = .ok (.iconst (-1), 1) := by decide +kernel
theorem d_Ed_substitute_15 : decode prog_5_method_26_code 15 = .ok (.istore 5, 2) := by decide +kernel
theorem d_Ed_substitute_17 : decode prog_5_method_26_code 17 = .ok (.iconst 0, 1) := by decide +kernel
theorem d_Ed_substitute_18 : decode prog_5_method_26_code 18 = .ok (.istore 6, 2) := by decide +kernel
theorem d_Ed_substitute_20 : decode prog_5_method_26_code 20 = .ok (.iconst 0, 1) := by decide +kernel
theorem d_Ed_substitute_21 : decode prog_5_method_26_code 21 = .ok (.istore 7, 2) := by decide +kernel
theorem d_Ed_substitute_23 : decode prog_5_method_26_code 23 = .ok (.iload 7, 2) := by decide +kernel
theorem d_Ed_substitute_25 : decode prog_5_method_26_code 25 = .ok (.bipush 60, 2) := by decide +kernel
theorem d_Ed_substitute_27 : decode prog_5_method_26_code 27 = .ok (.if_icmp .gt 191, 3) := by decide +kernel
theorem d_Ed_substitute_30 : decode prog_5_method_26_code 30 = .ok (.iload 6, 2) := by decide +kernel
theorem d_Ed_substitute_32 : decode prog_5_method_26_code 32 = .ok (.aload_n 0, 1) := by decide +kernel
theorem d_Ed_substitute_33 : decode prog_5_method_26_code 33 = .ok (.getfield 20, 3) := by decide +kernel
theorem d_Ed_substitute_36 : decode prog_5_method_26_code 36 = .ok (.getfield 123, 3) := by decide +kernel
theorem d_Ed_substitute_39 : decode prog_5_method_26_code 39 = .ok (.if_icmp .gt 179, 3) := by decide +kernel
theorem d_Ed_substitute_42 : decode prog_5_method_26_code 42 = .ok (.iload_n 3, 1) := by decide +kernel
theorem d_Ed_substitute_43 : decode prog_5_method_26_code 43 = .ok (.ifCond .le 14, 3) := by decide +kernel
theorem d_Ed_substitute_46 : decode prog_5_method_26_code 46 = .ok (.aload_n 1, 1) := by decide +kernel
theorem d_Ed_substitute_47 : decode prog_5_method_26_code 47 = .ok (.getfield 253, 3) := by decide +kernel
theorem d_Ed_substitute_50 : decode prog_5_method_26_code 50 = .ok (.ifCond .ne 7, 3) := by decide +kernel
theorem d_Ed_substitute_53 : decode prog_5_method_26_code 53 = .ok (.iconst 1, 1) := by decide +kernel
theorem d_Ed_substitute_54 : decode prog_5_method_26_code 54 = .ok (.goto 4, 3) := by decide +kernel
theorem d_Ed_substitute_57 : decode prog_5_method_26_code 57 = .ok (.iconst 0, 1) := by decide +kernel
theorem d_Ed_substitute_58 : decode prog_5_method_26_code 58 = .ok (.istore 8, 2) := by decide +kernel
theorem d_Ed_substitute_60 : decode prog_5_method_26_code 60 = .ok (.iload 8, 2) := by decide +kernel
theorem d_Ed_substitute_62 : decode prog_5_method_26_code 62 = .ok (.ifCond .ne 156, 3) := by decide +kernel
theorem d_Ed_substitute_65 : decode prog_5_method_26_code 65 = .ok (.aload_n 0, 1) := by decide +kernel
theorem d_Ed_substitute_66 : decode prog_5_method_26_code 66 = .ok (.getfield 32, 3) := by decide +kernel
theorem d_Ed_substitute_69 : decode prog_5_method_26_code 69 = .ok (.aload_n 0, 1) := by decide +kernel
theorem d_Ed_substitute_70 : decode prog_5_method_26_code 70 = .ok (.getfield 39, 3) := by decide +kernel
theorem d_Ed_substitute_73 : decode prog_5_method_26_code 73 = .ok (.getfield 179, 3) := by decide +kernel
theorem d_Ed_substitute_76 : decode prog_5_method_26_code 76 = .ok (.aload_n 1, 1) := by decide +kernel
theorem d_Ed_substitute_77 : decode prog_5_method_26_code 77 = .ok (.getfield 256, 3) := by decide +kernel
theorem d_Ed_substitute_80 : decode prog_5_method_26_code 80 = .ok (.aload_n 0, 1) := by decide +kernel
theorem d_Ed_substitute_81 : decode prog_5_method_26_code 81 = .ok (.getfield 20, 3) := by decide +kernel
theorem d_Ed_substitute_84 : decode prog_5_method_26_code 84 = .ok (.iload 6, 2) := by decide +kernel
theorem d_Ed_substitute_86 : decode prog_5_method_26_code 86 = .ok (.invokevirtual 187, 3) := by decide +kernel
theorem d_Ed_substitute_89 : decode prog_5_method_26_code 89 = .ok (.ifCond .ne 6, 3) := by decide +kernel
theorem d_Ed_substitute_92 : decode prog_5_method_26_code 92 = .ok (.goto 126, 3) := by decide +kernel
theorem d_Ed_substitute_95 : decode prog_5_method_26_code 95 = .ok (.aload_n 0, 1) := by decide +kernel
theorem d_Ed_substitute_96 : decode prog_5_method_26_code 96 = .ok (.getfield 32, 3) := by decide +kernel
theorem d_Ed_substitute_99 : decode prog_5_method_26_code 99 = .ok (.getfield 257, 3) := by decide +kernel
theorem d_Ed_substitute_102 : decode prog_5_method_26_code 102 = .ok (.aload_n 0, 1) := by decide +kernel
theorem d_Ed_substitute_103 : decode prog_5_method_26_code 103 = .ok (.getfield 32, 3) := by decide +kernel
theorem d_Ed_substitute_106 : decode prog_5_method_26_code 106 = .ok (.getfield 259, 3) := by decide +kernel
theorem d_Ed_substitute_109 : decode prog_5_method_26_code 109 = .ok (.if_icmp .ne 7, 3) := by decide +kernel
theorem d_Ed_substitute_112 : decode prog_5_method_26_code 112 = .ok (.iconst 1, 1) := by decide +kernel
theorem d_Ed_substitute_113 : decode prog_5_method_26_code 113 = .ok (.goto 4, 3) := by decide +kernel
theorem d_Ed_substitute_116 : decode prog_5_method_26_code 116 = .ok (.iconst 0, 1) := by decide +kernel
theorem d_Ed_substitute_117 : decode prog_5_method_26_code 117 = .ok (.istore 9, 2) := by decide +kernel
theorem d_Ed_substitute_119 : decode prog_5_method_26_code 119 = .ok (.iload 9, 2) := by decide +kernel
theorem d_Ed_substitute_121 : decode prog_5_method_26_code 121 = .ok (.ifCond .eq 15, 3) := by decide +kernel
theorem d_Ed_substitute_124 : decode prog_5_method_26_code 124 = .ok (.aload_n 0, 1) := by decide +kernel
theorem d_Ed_substitute_125 : decode prog_5_method_26_code 125 = .ok (.getfield 32, 3) := by decide +kernel
theorem d_Ed_substitute_128 : decode prog_5_method_26_code 128 = .ok (.getfield 257, 3) := by decide +kernel
theorem d_Ed_substitute_131 : decode prog_5_method_26_code 131 = .ok (.iload 5, 2) := by decide +kernel
theorem d_Ed_substitute_133 : decode prog_5_method_26_code 133 = .ok (.if_icmp .eq 44, 3) := by decide +kernel
theorem d_Ed_substitute_136 : decode prog_5_method_26_code 136 = .ok (.iinc 2 1, 3) := by decide +kernel
theorem d_Ed_substitute_139 : decode prog_5_method_26_code 139 = .ok (.aload_n 1, 1) := by decide +kernel
theorem d_Ed_substitute_140 : decode prog_5_method_26_code 140 = .ok (.iload_n 2, 1) := by decide +kernel
theorem d_Ed_substitute_141 : decode prog_5_method_26_code 141 = .ok (.invokevirtual 262, 3) := by decide +kernel
theorem d_Ed_substitute_144 : decode prog_5_method_26_code 144 = .ok (.ifCond .eq 33, 3) := by decide +kernel
theorem d_Ed_substitute_147 : decode prog_5_method_26_code 147 = .ok (.aload_n 0, 1) := by decide +kernel
theorem d_Ed_substitute_148 : decode prog_5_method_26_code 148 = .ok (.iload 4, 2) := by decide +kernel
theorem d_Ed_substitute_150 : decode prog_5_method_26_code 150 = .ok (.aload_n 0, 1) := by decide +kernel
theorem d_Ed_substitute_151 : decode prog_5_method_26_code 151 = .ok (.getfield 32, 3) := by decide +kernel
theorem d_Ed_substitute_154 : decode prog_5_method_26_code 154 = .ok (.getfield 257, 3) := by decide +kernel
theorem d_Ed_substitute_157 : decode prog_5_method_26_code 157 = .ok (.invokevirtual 265, 3) := by decide +kernel
theorem d_Ed_substitute_160 : decode prog_5_method_26_code 160 = .ok (.aload_n 0, 1) := by decide +kernel
theorem d_Ed_substitute_161 : decode prog_5_method_26_code 161 = .ok (.aload_n 1, 1) := by decide +kernel
theorem d_Ed_substitute_162 : decode prog_5_method_26_code 162 = .ok (.invokevirtual 269, 3) := by decide +kernel
theorem d_Ed_substitute_165 : decode prog_5_method_26_code 165 = .ok (.aload_n 0, 1) := by decide +kernel
theorem d_Ed_substitute_166 : decode prog_5_method_26_code 166 = .ok (.getfield 32, 3) := by decide +kernel
theorem d_Ed_substitute_169 : decode prog_5_method_26_code 169 = .ok (.getfield 259, 3) := by decide +kernel
theorem d_Ed_substitute_172 : decode prog_5_method_26_code 172 = .ok (.istore 4, 2) := by decide +kernel
theorem d_Ed_substitute_174 : decode prog_5_method_26_code 174 = .ok (.iinc 3 1, 3) := by decide +kernel
theorem d_Ed_substitute_177 : decode prog_5_method_26_code 177 = .ok (.aload_n 0, 1) := by decide +kernel
theorem d_Ed_substitute_178 : decode prog_5_method_26_code 178 = .ok (.getfield 32, 3) := by decide +kernel
theorem d_Ed_substitute_181 : decode prog_5_method_26_code 181 = .ok (.getfield 259, 3) := by decide +kernel
theorem d_Ed_substitute_184 : decode prog_5_method_26_code 184 = .ok (.istore 5, 2) := by decide +kernel
theorem d_Ed_substitute_186 : decode prog_5_method_26_code 186 = .ok (.iload 9, 2) := by decide +kernel
theorem d_Ed_substitute_188 : decode prog_5_method_26_code 188 = .ok (.ifCond .eq 15, 3) := by decide +kernel
theorem d_Ed_substitute_191 : decode prog_5_method_26_code 191 = .ok (.aload_n 0, 1) := by decide +kernel
theorem d_Ed_substitute_192 : decode prog_5_method_26_code 192 = .ok (.getfield 32, 3) := by decide +kernel
theorem d_Ed_substitute_195 : decode prog_5_method_26_code 195 = .ok (.getfield 259, 3) := by decide +kernel
theorem d_Ed_substitute_198 : decode prog_5_method_26_code 198 = .ok (.iconst 1, 1) := by decide +kernel
theorem d_Ed_substitute_199 : decode prog_5_method_26_code 199 = .ok (.iadd, 1) := by decide +kernel
theorem d_Ed_substitute_200 : decode prog_5_method_26_code 200 = .ok (.goto 10, 3) := by decide +kernel
theorem d_Ed_substitute_203 : decode prog_5_method_26_code 203 = .ok (.aload_n 0, 1) := by decide +kernel
theorem d_Ed_substitute_204 : decode prog_5_method_26_code 204 = .ok (.getfield 32, 3) := by decide +kernel
theorem d_Ed_substitute_207 : decode prog_5_method_26_code 207 = .ok (.getfield 259, 3) := by decide +kernel
theorem d_Ed_substitute_210 : decode prog_5_method_26_code 210 = .ok (.istore 6, 2) := by decide +kernel
theorem d_Ed_substitute_212 : decode prog_5_method_26_code 212 = .ok (.iinc 7 1, 3) := by decide +kernel
theorem d_Ed_substitute_215 : decode prog_5_method_26_code 215 = .ok (.goto (-192), 3) := by decide +kernel
theorem d_Ed_substitute_218 : decode prog_5_method_26_code 218 = .ok (.aload_n 0, 1) := by decide +kernel
theorem d_Ed_substitute_219 : decode prog_5_method_26_code 219 = .ok (.iload 4, 2) := by decide +kernel
theorem d_Ed_substitute_221 : decode prog_5_method_26_code 221 = .ok (.aload_n 0, 1) := by decide +kernel
theorem d_Ed_substitute_222 : decode prog_5_method_26_code 222 = .ok (.getfield 20, 3) := by decide +kernel
theorem d_Ed_substitute_225 : decode prog_5_method_26_code 225 = .ok (.getfield 123, 3) := by decide +kernel
theorem d_Ed_substitute_228 : decode prog_5_method_26_code 228 = .ok (.invokevirtual 265, 3) := by decide +kernel
theorem d_Ed_substitute_231 : decode prog_5_method_26_code 231 = .ok (.iload_n 3, 1) := by decide +kernel
theorem d_Ed_substitute_232 : decode prog_5_method_26_code 232 = .ok (.ifCond .le 9, 3) := by decide +kernel
theorem d_Ed_substitute_235 : decode prog_5_method_26_code 235 = .ok (.aload_n 0, 1) := by decide +kernel
theorem d_Ed_substitute_236 : decode prog_5_method_26_code 236 = .ok (.aload_n 1, 1) := by decide +kernel
theorem d_Ed_substitute_237 : decode prog_5_method_26_code 237 = .ok (.iload_n 3, 1) := by decide +kernel
theorem d_Ed_substitute_238 : decode prog_5_method_26_code 238 = .ok (.invokevirtual 272, 3) := by decide +kernel
theorem d_Ed_substitute_241 : decode prog_5_method_26_code 241 = .ok (.return_, 1) := by decide +kernel
theorem d_Ed_append_0 : decode prog_5_method_16_code 0 = .ok (.aload_n 0, 1) := by decide +kernel
theorem d_Ed_append_1 : decode prog_5_method_16_code 1 = .ok (.getfield 26, 3) := by decide +kernel
theorem d_Ed_append_4 : decode prog_5_method_16_code 4 = .ok (.aload_n 1, 1) := by decide +kernel
theorem d_Ed_append_5 : decode prog_5_method_16_code 5 = .ok (.getfield 209, 3) := by decide +kernel
theorem d_Ed_append_8 : decode prog_5_method_16_code 8 = .ok (.aload_n 1, 1) := by decide +kernel
theorem d_Ed_append_9 : decode prog_5_method_16_code 9 = .ok (.getfield 206, 3) := by decide +kernel
theorem d_Ed_append_12 : decode prog_5_method_16_code 12 = .ok (.isub, 1) := by decide +kernel
theorem d_Ed_append_13 : decode prog_5_method_16_code 13 = .ok (.iconst 1, 1) := by decide +kernel
theorem d_Ed_append_14 : decode prog_5_method_16_code 14 = .ok (.iadd, 1) := by decide +kernel
theorem d_Ed_append_15 : decode prog_5_method_16_code 15 = .ok (.invokevirtual 136, 3) := by decide +kernel
theorem d_Ed_append_18 : decode prog_5_method_16_code 18 = .ok (.ifCond .ne 11, 3) := by decide +kernel
theorem d_Ed_append_21 : decode prog_5_method_16_code 21 = .ok (.new 140, 3) := by decide +kernel
theorem d_Ed_append_24 : decode prog_5_method_16_code 24 = .ok (.dup, 1) := by decide +kernel
theorem d_Ed_append_25 : decode prog_5_method_16_code 25 = .ok (.invokespecial 142, 3) := by decide +kernel
theorem d_Ed_append_28 : decode prog_5_method_16_code 28 = .ok (.athrow, 1) := by decide +kernel
theorem d_Ed_append_29 : decode prog_5_method_16_code 29 = .ok (.aload_n 0, 1) := by decide +kernel
theorem d_Ed_append_30 : decode prog_5_method_16_code 30 = .ok (.getfield 26, 3) := by decide +kernel
theorem d_Ed_append_33 : decode prog_5_method_16_code 33 = .ok (.aload_n 0, 1) := by decide +kernel
theorem d_Ed_append_34 : decode prog_5_method_16_code 34 = .ok (.getfield 39, 3) := by decide +kernel
theorem d_Ed_append_37 : decode prog_5_method_16_code 37 = .ok (.getfield 203, 3) := by decide +kernel
theorem d_Ed_append_40 : decode prog_5_method_16_code 40 = .ok (.aload_n 1, 1) := by decide +kernel
theorem d_Ed_append_41 : decode prog_5_method_16_code 41 = .ok (.getfield 206, 3) := by decide +kernel
theorem d_Ed_append_44 : decode prog_5_method_16_code 44 = .ok (.aload_n 1, 1) := by decide +kernel
theorem d_Ed_append_45 : decode prog_5_method_16_code 45 = .ok (.getfield 209, 3) := by decide +kernel
theorem d_Ed_append_48 : decode prog_5_method_16_code 48 = .ok (.invokevirtual 126, 3) := by decide +kernel
theorem d_Ed_append_51 : decode prog_5_method_16_code 51 = .ok (.aload_n 0, 1) := by decide +kernel
theorem d_Ed_append_52 : decode prog_5_method_16_code 52 = .ok (.getfield 26, 3) := by decide +kernel
theorem d_Ed_append_55 : decode prog_5_method_16_code 55 = .ok (.bipush 10, 2) := by decide +kernel
theorem d_Ed_append_57 : decode prog_5_method_16_code 57 = .ok (.invokevirtual 143, 3) := by decide +kernel
theorem d_Ed_append_60 : decode prog_5_method_16_code 60 = .ok (.return_, 1) := by decide +kernel
theorem d_Ed_change_0 : decode prog_5_method_17_code 0 = .ok (.aload_n 0, 1) := by decide +kernel
theorem d_Ed_change_1 : decode prog_5_method_17_code 1 = .ok (.getfield 20, 3) := by decide +kernel
theorem d_Ed_change_4 : decode prog_5_method_17_code 4 = .ok (.invokevirtual 96, 3) := by decide +kernel
theorem d_Ed_change_7 : decode prog_5_method_17_code 7 = .ok (.aload_n 1, 1) := by decide +kernel
theorem d_Ed_change_8 : decode prog_5_method_17_code 8 = .ok (.getfield 150, 3) := by decide +kernel
theorem d_Ed_change_11 : decode prog_5_method_17_code 11 = .ok (.iconst 2, 1) := by decide +kernel
theorem d_Ed_change_12 : decode prog_5_method_17_code 12 = .ok (.if_icmp .lt 17, 3) := by decide +kernel
theorem d_Ed_change_15 : decode prog_5_method_17_code 15 = .ok (.aload_n 1, 1) := by decide +kernel
theorem d_Ed_change_16 : decode prog_5_method_17_code 16 = .ok (.getfield 170, 3) := by decide +kernel
theorem d_Ed_change_19 : decode prog_5_method_17_code 19 = .ok (.ifCond .ne 10, 3) := by decide +kernel
theorem d_Ed_change_22 : decode prog_5_method_17_code 22 = .ok (.aload_n 0, 1) := by decide +kernel
theorem d_Ed_change_23 : decode prog_5_method_17_code 23 = .ok (.getfield 167, 3) := by decide +kernel
theorem d_Ed_change_26 : decode prog_5_method_17_code 26 = .ok (.ifCond .eq 22, 3) := by decide +kernel
theorem d_Ed_change_29 : decode prog_5_method_17_code 29 = .ok (.aload_n 0, 1) := by decide +kernel
theorem d_Ed_change_30 : decode prog_5_method_17_code 30 = .ok (.aload_n 0, 1) := by decide +kernel
theorem d_Ed_change_31 : decode prog_5_method_17_code 31 = .ok (.getfield 39, 3) := by decide +kernel
theorem d_Ed_change_34 : decode prog_5_method_17_code 34 = .ok (.getfield 203, 3) := by decide +kernel
theorem d_Ed_change_37 : decode prog_5_method_17_code 37 = .ok (.aload_n 1, 1) := by decide +kernel
theorem d_Ed_change_38 : decode prog_5_method_17_code 38 = .ok (.getfield 206, 3) := by decide +kernel
theorem d_Ed_change_41 : decode prog_5_method_17_code 41 = .ok (.aload_n 1, 1) := by decide +kernel
theorem d_Ed_change_42 : decode prog_5_method_17_code 42 = .ok (.getfield 209, 3) := by decide +kernel
theorem d_Ed_change_45 : decode prog_5_method_17_code 45 = .ok (.invokevirtual 130, 3) := by decide +kernel
theorem d_Ed_change_48 : decode prog_5_method_17_code 48 = .ok (.aload_n 0, 1) := by decide +kernel
theorem d_Ed_change_49 : decode prog_5_method_17_code 49 = .ok (.iconst 0, 1) := by decide +kernel
theorem d_Ed_change_50 : decode prog_5_method_17_code 50 = .ok (.invokevirtual 66, 3) := by decide +kernel
theorem d_Ed_change_53 : decode prog_5_method_17_code 53 = .ok (.return_, 1) := by decide +kernel
theorem d_Ed_deleteFirst_0 : decode prog_5_method_18_code 0 = .ok (.aload_n 0, 1) := by decide +kernel
theorem d_Ed_deleteFirst_1 : decode prog_5_method_18_code 1 = .ok (.getfield 20, 3) := by decide +kernel
theorem d_Ed_deleteFirst_4 : decode prog_5_method_18_code 4 = .ok (.iconst 0, 1) := by decide +kernel
theorem d_Ed_deleteFirst_5 : decode prog_5_method_18_code 5 = .ok (.invokevirtual 218, 3) := by decide +kernel
theorem d_Ed_deleteFirst_8 : decode prog_5_method_18_code 8 = .ok (.istore_n 1, 1) := by decide +kernel
theorem d_Ed_deleteFirst_9 : decode prog_5_method_18_code 9 = .ok (.iload_n 1, 1) := by decide +kernel
theorem d_Ed_deleteFirst_10 : decode prog_5_method_18_code 10 = .ok (.aload_n 0, 1) := by decide +kernel
theorem d_Ed_deleteFirst_11 : decode prog_5_method_18_code 11 = .ok (.getfield 20, 3) := by decide +kernel
theorem d_Ed_deleteFirst_14 : decode prog_5_method_18_code 14 = .ok (.getfield 123, 3) := by decide +kernel
theorem d_Ed_deleteFirst_17 : decode prog_5_method_18_code 17 = .ok (.if_icmp .ne 9, 3) := by decide +kernel
theorem d_Ed_deleteFirst_20 : decode prog_5_method_18_code 20 = .ok (.aload_n 0, 1) := by decide +kernel
theorem d_Ed_deleteFirst_21 : decode prog_5_method_18_code 21 = .ok (.iconst 0, 1) := by decide +kernel
theorem d_Ed_deleteFirst_22 : decode prog_5_method_18_code 22 = .ok (.invokevirtual 66, 3) := by decide +kernel
theorem d_Ed_deleteFirst_25 : decode prog_5_method_18_code 25 = .ok (.return_, 1) := by decide +kernel
theorem d_Ed_deleteFirst_26 : decode prog_5_method_18_code 26 = .ok (.aload_n 0, 1) := by decide +kernel
theorem d_Ed_deleteFirst_27 : decode prog_5_method_18_code 27 = .ok (.invokevirtual 133, 3) := by decide +kernel
theorem d_Ed_deleteFirst_30 : decode prog_5_method_18_code 30 = .ok (.aload_n 0, 1) := by decide +kernel
theorem d_Ed_deleteFirst_31 : decode prog_5_method_18_code 31 = .ok (.getfield 20, 3) := by decide +kernel
theorem d_Ed_deleteFirst_34 : decode prog_5_method_18_code 34 = .ok (.iload_n 1, 1) := by decide +kernel
theorem d_Ed_deleteFirst_35 : decode prog_5_method_18_code 35 = .ok (.iconst 1, 1) := by decide +kernel
theorem d_Ed_deleteFirst_36 : decode prog_5_method_18_code 36 = .ok (.iadd, 1) := by decide +kernel
theorem d_Ed_deleteFirst_37 : decode prog_5_method_18_code 37 = .ok (.invokevirtual 244, 3) := by decide +kernel
theorem d_Ed_deleteFirst_40 : decode prog_5_method_18_code 40 = .ok (.aload_n 0, 1) := by decide +kernel
theorem d_Ed_deleteFirst_41 : decode prog_5_method_18_code 41 = .ok (.invokevirtual 117, 3) := by decide +kernel
theorem d_Ed_deleteFirst_44 : decode prog_5_method_18_code 44 = .ok (.return_, 1) := by decide +kernel
theorem d_Ed_quit_0 : decode prog_5_method_8_code 0 = .ok (.aload_n 0, 1) := by decide +kernel
theorem d_Ed_quit_1 : decode prog_5_method_8_code 1 = .ok (.aload_n 0, 1) := by decide +kernel
theorem d_Ed_quit_2 : decode prog_5_method_8_code 2 = .ok (.getfield 20, 3) := by decide +kernel
theorem d_Ed_quit_5 : decode prog_5_method_8_code 5 = .ok (.iconst 0, 1) := by decide +kernel
theorem d_Ed_quit_6 : decode prog_5_method_8_code 6 = .ok (.aload_n 0, 1) := by decide +kernel
theorem d_Ed_quit_7 : decode prog_5_method_8_code 7 = .ok (.getfield 20, 3) := by decide +kernel
theorem d_Ed_quit_10 : decode prog_5_method_8_code 10 = .ok (.getfield 123, 3) := by decide +kernel
theorem d_Ed_quit_13 : decode prog_5_method_8_code 13 = .ok (.invokevirtual 130, 3) := by decide +kernel
theorem d_Ed_quit_16 : decode prog_5_method_8_code 16 = .ok (.aload_n 0, 1) := by decide +kernel
theorem d_Ed_quit_17 : decode prog_5_method_8_code 17 = .ok (.invokevirtual 133, 3) := by decide +kernel
theorem d_Ed_quit_20 : decode prog_5_method_8_code 20 = .ok (.aload_n 0, 1) := by decide +kernel
theorem d_Ed_quit_21 : decode prog_5_method_8_code 21 = .ok (.iconst 1, 1) := by decide +kernel
theorem d_Ed_quit_22 : decode prog_5_method_8_code 22 = .ok (.putfield 54, 3) := by decide +kernel
theorem d_Ed_quit_25 : decode prog_5_method_8_code 25 = .ok (.return_, 1) := by decide +kernel
theorem d_Ed_replaceByNext_0 : decode prog_5_method_19_code 0 = .ok (.aload_n 0, 1) := by decide +kernel
theorem d_Ed_replaceByNext_1 : decode prog_5_method_19_code 1 = .ok (.getfield 99, 3) := by decide +kernel
theorem d_Ed_replaceByNext_4 : decode prog_5_method_19_code 4 = .ok (.aload_n 0, 1) := by decide +kernel
theorem d_Ed_replaceByNext_5 : decode prog_5_method_19_code 5 = .ok (.getfield 47, 3) := by decide +kernel
theorem d_Ed_replaceByNext_8 : decode prog_5_method_19_code 8 = .ok (.if_icmp .ne 8, 3) := by decide +kernel
theorem d_Ed_replaceByNext_11 : decode prog_5_method_19_code 11 = .ok (.aload_n 0, 1) := by decide +kernel
theorem d_Ed_replaceByNext_12 : decode prog_5_method_19_code 12 = .ok (.invokevirtual 241, 3) := by decide +kernel
theorem d_Ed_replaceByNext_15 : decode prog_5_method_19_code 15 = .ok (.return_, 1) := by decide +kernel
theorem d_Ed_replaceByNext_16 : decode prog_5_method_19_code 16 = .ok (.aload_n 0, 1) := by decide +kernel
theorem d_Ed_replaceByNext_17 : decode prog_5_method_19_code 17 = .ok (.aload_n 0, 1) := by decide +kernel
theorem d_Ed_replaceByNext_18 : decode prog_5_method_19_code 18 = .ok (.getfield 20, 3) := by decide +kernel
theorem d_Ed_replaceByNext_21 : decode prog_5_method_19_code 21 = .ok (.iconst 0, 1) := by decide +kernel
theorem d_Ed_replaceByNext_22 : decode prog_5_method_19_code 22 = .ok (.aload_n 0, 1) := by decide +kernel
theorem d_Ed_replaceByNext_23 : decode prog_5_method_19_code 23 = .ok (.getfield 20, 3) := by decide +kernel
theorem d_Ed_replaceByNext_26 : decode prog_5_method_19_code 26 = .ok (.getfield 123, 3) := by decide +kernel
theorem d_Ed_replaceByNext_29 : decode prog_5_method_19_code 29 = .ok (.invokevirtual 130, 3) := by decide +kernel
theorem d_Ed_replaceByNext_32 : decode prog_5_method_19_code 32 = .ok (.aload_n 0, 1) := by decide +kernel
theorem d_Ed_replaceByNext_33 : decode prog_5_method_19_code 33 = .ok (.invokevirtual 133, 3) := by decide +kernel
theorem d_Ed_replaceByNext_36 : decode prog_5_method_19_code 36 = .ok (.aload_n 0, 1) := by decide +kernel
theorem d_Ed_replaceByNext_37 : decode prog_5_method_19_code 37 = .ok (.getfield 20, 3) := by decide +kernel
theorem d_Ed_replaceByNext_40 : decode prog_5_method_19_code 40 = .ok (.invokevirtual 96, 3) := by decide +kernel
theorem d_Ed_replaceByNext_43 : decode prog_5_method_19_code 43 = .ok (.aload_n 0, 1) := by decide +kernel
theorem d_Ed_replaceByNext_44 : decode prog_5_method_19_code 44 = .ok (.invokevirtual 114, 3) := by decide +kernel
theorem d_Ed_replaceByNext_47 : decode prog_5_method_19_code 47 = .ok (.return_, 1) := by decide +kernel
theorem d_Ed_joinNext_0 : decode prog_5_method_20_code 0 = .ok (.aload_n 0, 1) := by decide +kernel
theorem d_Ed_joinNext_1 : decode prog_5_method_20_code 1 = .ok (.getfield 99, 3) := by decide +kernel
theorem d_Ed_joinNext_4 : decode prog_5_method_20_code 4 = .ok (.aload_n 0, 1) := by decide +kernel
theorem d_Ed_joinNext_5 : decode prog_5_method_20_code 5 = .ok (.getfield 47, 3) := by decide +kernel
theorem d_Ed_joinNext_8 : decode prog_5_method_20_code 8 = .ok (.if_icmp .ne 8, 3) := by decide +kernel
theorem d_Ed_joinNext_11 : decode prog_5_method_20_code 11 = .ok (.aload_n 0, 1) := by decide +kernel
theorem d_Ed_joinNext_12 : decode prog_5_method_20_code 12 = .ok (.invokevirtual 241, 3) := by decide +kernel
theorem d_Ed_joinNext_15 : decode prog_5_method_20_code 15 = .ok (.return_, 1) := by decide +kernel
theorem d_Ed_joinNext_16 : decode prog_5_method_20_code 16 = .ok (.aload_n 0, 1) := by decide +kernel
theorem d_Ed_joinNext_17 : decode prog_5_method_20_code 17 = .ok (.getfield 20, 3) := by decide +kernel
theorem d_Ed_joinNext_20 : decode prog_5_method_20_code 20 = .ok (.iconst 1, 1) := by decide +kernel
theorem d_Ed_joinNext_21 : decode prog_5_method_20_code 21 = .ok (.aload_n 0, 1) := by decide +kernel
theorem d_Ed_joinNext_22 : decode prog_5_method_20_code 22 = .ok (.getfield 43, 3) := by decide +kernel
theorem d_Ed_joinNext_25 : decode prog_5_method_20_code 25 = .ok (.aload_n 0, 1) := by decide +kernel
theorem d_Ed_joinNext_26 : decode prog_5_method_20_code 26 = .ok (.getfield 99, 3) := by decide +kernel
theorem d_Ed_joinNext_29 : decode prog_5_method_20_code 29 = .ok (.aaload, 1) := by decide +kernel
theorem d_Ed_joinNext_30 : decode prog_5_method_20_code 30 = .ok (.getfield 123, 3) := by decide +kernel
theorem d_Ed_joinNext_33 : decode prog_5_method_20_code 33 = .ok (.iadd, 1) := by decide +kernel
theorem d_Ed_joinNext_34 : decode prog_5_method_20_code 34 = .ok (.invokevirtual 136, 3) := by decide +kernel
theorem d_Ed_joinNext_37 : decode prog_5_method_20_code 37 = .ok (.ifCond .ne 11, 3) := by decide +kernel
theorem d_Ed_joinNext_40 : decode prog_5_method_20_code 40 = .ok (.new 140, 3) := by decide +kernel
theorem d_Ed_joinNext_43 : decode prog_5_method_20_code 43 = .ok (.dup, 1) := by decide +kernel
theorem d_Ed_joinNext_44 : decode prog_5_method_20_code 44 = .ok (.invokespecial 142, 3) := by decide +kernel
theorem d_Ed_joinNext_47 : decode prog_5_method_20_code 47 = .ok (.athrow, 1) := by decide +kernel
theorem d_Ed_joinNext_48 : decode prog_5_method_20_code 48 = .ok (.aload_n 0, 1) := by decide +kernel
theorem d_Ed_joinNext_49 : decode prog_5_method_20_code 49 = .ok (.invokevirtual 133, 3) := by decide +kernel
theorem d_Ed_joinNext_52 : decode prog_5_method_20_code 52 = .ok (.aload_n 0, 1) := by decide +kernel
theorem d_Ed_joinNext_53 : decode prog_5_method_20_code 53 = .ok (.getfield 20, 3) := by decide +kernel
theorem d_Ed_joinNext_56 : decode prog_5_method_20_code 56 = .ok (.bipush 10, 2) := by decide +kernel
theorem d_Ed_joinNext_58 : decode prog_5_method_20_code 58 = .ok (.invokevirtual 143, 3) := by decide +kernel
theorem d_Ed_joinNext_61 : decode prog_5_method_20_code 61 = .ok (.aload_n 0, 1) := by decide +kernel
theorem d_Ed_joinNext_62 : decode prog_5_method_20_code 62 = .ok (.invokevirtual 114, 3) := by decide +kernel
theorem d_Ed_joinNext_65 : decode prog_5_method_20_code 65 = .ok (.return_, 1) := by decide +kernel
theorem d_Ed_join_0 : decode prog_5_method_22_code 0 = .ok (.aload_n 2, 1) := by decide +kernel
theorem d_Ed_join_1 : decode prog_5_method_22_code 1 = .ok (.iconst 1, 1) := by decide +kernel
theorem d_Ed_join_2 : decode prog_5_method_22_code 2 = .ok (.aload_n 1, 1) := by decide +kernel
theorem d_Ed_join_3 : decode prog_5_method_22_code 3 = .ok (.getfield 123, 3) := by decide +kernel
theorem d_Ed_join_6 : decode prog_5_method_22_code 6 = .ok (.iadd, 1) := by decide +kernel
theorem d_Ed_join_7 : decode prog_5_method_22_code 7 = .ok (.invokevirtual 136, 3) := by decide +kernel
theorem d_Ed_join_10 : decode prog_5_method_22_code 10 = .ok (.ifCond .ne 11, 3) := by decide +kernel
theorem d_Ed_join_13 : decode prog_5_method_22_code 13 = .ok (.new 140, 3) := by decide +kernel
theorem d_Ed_join_16 : decode prog_5_method_22_code 16 = .ok (.dup, 1) := by decide +kernel
theorem d_Ed_join_17 : decode prog_5_method_22_code 17 = .ok (.invokespecial 142, 3) := by decide +kernel
theorem d_Ed_join_20 : decode prog_5_method_22_code 20 = .ok (.athrow, 1) := by decide +kernel
theorem d_Ed_join_21 : decode prog_5_method_22_code 21 = .ok (.aload_n 2, 1) := by decide +kernel
theorem d_Ed_join_22 : decode prog_5_method_22_code 22 = .ok (.bipush 10, 2) := by decide +kernel
theorem d_Ed_join_24 : decode prog_5_method_22_code 24 = .ok (.invokevirtual 143, 3) := by decide +kernel
theorem d_Ed_join_27 : decode prog_5_method_22_code 27 = .ok (.aload_n 2, 1) := by decide +kernel
theorem d_Ed_join_28 : decode prog_5_method_22_code 28 = .ok (.aload_n 1, 1) := by decide +kernel
theorem d_Ed_join_29 : decode prog_5_method_22_code 29 = .ok (.iconst 0, 1) := by decide +kernel
theorem d_Ed_join_30 : decode prog_5_method_22_code 30 = .ok (.aload_n 1, 1) := by decide +kernel
theorem d_Ed_join_31 : decode prog_5_method_22_code 31 = .ok (.getfield 123, 3) := by decide +kernel
theorem d_Ed_join_34 : decode prog_5_method_22_code 34 = .ok (.invokevirtual 126, 3) := by decide +kernel
theorem d_Ed_join_37 : decode prog_5_method_22_code 37 = .ok (.return_, 1) := by decide +kernel
theorem d_Ed_tellNumber_0 : decode prog_5_method_24_code 0 = .ok (.aload_n 0, 1) := by decide +kernel
theorem d_Ed_tellNumber_1 : decode prog_5_method_24_code 1 = .ok (.getfield 36, 3) := by decide +kernel
theorem d_Ed_tellNumber_4 : decode prog_5_method_24_code 4 = .ok (.invokevirtual 96, 3) := by decide +kernel
theorem d_Ed_tellNumber_7 : decode prog_5_method_24_code 7 = .ok (.aload_n 0, 1) := by decide +kernel
theorem d_Ed_tellNumber_8 : decode prog_5_method_24_code 8 = .ok (.getfield 99, 3) := by decide +kernel
theorem d_Ed_tellNumber_11 : decode prog_5_method_24_code 11 = .ok (.bipush 10, 2) := by decide +kernel
theorem d_Ed_tellNumber_13 : decode prog_5_method_24_code 13 = .ok (.if_icmp .lt 20, 3) := by decide +kernel
theorem d_Ed_tellNumber_16 : decode prog_5_method_24_code 16 = .ok (.aload_n 0, 1) := by decide +kernel
theorem d_Ed_tellNumber_17 : decode prog_5_method_24_code 17 = .ok (.getfield 36, 3) := by decide +kernel
theorem d_Ed_tellNumber_20 : decode prog_5_method_24_code 20 = .ok (.bipush 48, 2) := by decide +kernel
theorem d_Ed_tellNumber_22 : decode prog_5_method_24_code 22 = .ok (.aload_n 0, 1) := by decide +kernel
theorem d_Ed_tellNumber_23 : decode prog_5_method_24_code 23 = .ok (.getfield 99, 3) := by decide +kernel
theorem d_Ed_tellNumber_26 : decode prog_5_method_24_code 26 = .ok (.bipush 10, 2) := by decide +kernel
theorem d_Ed_tellNumber_28 : decode prog_5_method_24_code 28 = .ok (.idiv, 1) := by decide +kernel
theorem d_Ed_tellNumber_29 : decode prog_5_method_24_code 29 = .ok (.iadd, 1) := by decide +kernel
theorem d_Ed_tellNumber_30 : decode prog_5_method_24_code 30 = .ok (.invokevirtual 143, 3) := by decide +kernel
theorem d_Ed_tellNumber_33 : decode prog_5_method_24_code 33 = .ok (.aload_n 0, 1) := by decide +kernel
theorem d_Ed_tellNumber_34 : decode prog_5_method_24_code 34 = .ok (.getfield 36, 3) := by decide +kernel
theorem d_Ed_tellNumber_37 : decode prog_5_method_24_code 37 = .ok (.bipush 48, 2) := by decide +kernel
theorem d_Ed_tellNumber_39 : decode prog_5_method_24_code 39 = .ok (.aload_n 0, 1) := by decide +kernel
theorem d_Ed_tellNumber_40 : decode prog_5_method_24_code 40 = .ok (.getfield 99, 3) := by decide +kernel
theorem d_Ed_tellNumber_43 : decode prog_5_method_24_code 43 = .ok (.bipush 10, 2) := by decide +kernel
theorem d_Ed_tellNumber_45 : decode prog_5_method_24_code 45 = .ok (.irem, 1) := by decide +kernel
theorem d_Ed_tellNumber_46 : decode prog_5_method_24_code 46 = .ok (.iadd, 1) := by decide +kernel
theorem d_Ed_tellNumber_47 : decode prog_5_method_24_code 47 = .ok (.invokevirtual 143, 3) := by decide +kernel
theorem d_Ed_tellNumber_50 : decode prog_5_method_24_code 50 = .ok (.aload_n 0, 1) := by decide +kernel
theorem d_Ed_tellNumber_51 : decode prog_5_method_24_code 51 = .ok (.aload_n 0, 1) := by decide +kernel
theorem d_Ed_tellNumber_52 : decode prog_5_method_24_code 52 = .ok (.getfield 36, 3) := by decide +kernel
theorem d_Ed_tellNumber_55 : decode prog_5_method_24_code 55 = .ok (.iconst 0, 1) := by decide +kernel
theorem d_Ed_tellNumber_56 : decode prog_5_method_24_code 56 = .ok (.aload_n 0, 1) := by decide +kernel
theorem d_Ed_tellNumber_57 : decode prog_5_method_24_code 57 = .ok (.getfield 36, 3) := by decide +kernel
theorem d_Ed_tellNumber_60 : decode prog_5_method_24_code 60 = .ok (.getfield 123, 3) := by decide +kernel
theorem d_Ed_tellNumber_63 : decode prog_5_method_24_code 63 = .ok (.invokevirtual 130, 3) := by decide +kernel
theorem d_Ed_tellNumber_66 : decode prog_5_method_24_code 66 = .ok (.return_, 1) := by decide +kernel
theorem d_Ed_perform_0 : decode prog_5_method_14_code 0 = .ok (.aload_n 1, 1) := by decide +kernel
theorem d_Ed_perform_1 : decode prog_5_method_14_code 1 = .ok (.getfield 88, 3) := by decide +kernel
theorem d_Ed_perform_4 : decode prog_5_method_14_code 4 = .ok (.tableswitch 482 61 121 #[468, 482, 482, 482, 482, 482, 482, 341, 482, 482, 446, 416, 482, 482, 482, 482, 482, 394, 482, 367, 482, 482, 482, 482, 482, 482, 482, 482, 482, 482, 482, 482, 482, 482, 482, 482, 295, 260, 325, 333, 482, 482, 431, 401, 303, 482, 482, 482, 482, 387, 482, 348, 475, 482, 279, 271, 482, 482, 482, 461, 287], 260) := by decide +kernel
theorem d_Ed_perform_264 : decode prog_5_method_14_code 264 = .ok (.aload_n 0, 1) := by decide +kernel
theorem d_Ed_perform_265 : decode prog_5_method_14_code 265 = .ok (.aload_n 1, 1) := by decide +kernel
theorem d_Ed_perform_266 : decode prog_5_method_14_code 266 = .ok (.getfield 93, 3) := by decide +kernel
theorem d_Ed_perform_269 : decode prog_5_method_14_code 269 = .ok (.putfield 58, 3) := by decide +kernel
theorem d_Ed_perform_272 : decode prog_5_method_14_code 272 = .ok (.goto 214, 3) := by decide +kernel
theorem d_Ed_perform_275 : decode prog_5_method_14_code 275 = .ok (.aload_n 0, 1) := by decide +kernel
theorem d_Ed_perform_276 : decode prog_5_method_14_code 276 = .ok (.aload_n 1, 1) := by decide +kernel
theorem d_Ed_perform_277 : decode prog_5_method_14_code 277 = .ok (.invokevirtual 191, 3) := by decide +kernel
theorem d_Ed_perform_280 : decode prog_5_method_14_code 280 = .ok (.goto 206, 3) := by decide +kernel
theorem d_Ed_perform_283 : decode prog_5_method_14_code 283 = .ok (.aload_n 0, 1) := by decide +kernel
theorem d_Ed_perform_284 : decode prog_5_method_14_code 284 = .ok (.aload_n 1, 1) := by decide +kernel
theorem d_Ed_perform_285 : decode prog_5_method_14_code 285 = .ok (.invokevirtual 194, 3) := by decide +kernel
theorem d_Ed_perform_288 : decode prog_5_method_14_code 288 = .ok (.goto 198, 3) := by decide +kernel
theorem d_Ed_perform_291 : decode prog_5_method_14_code 291 = .ok (.aload_n 0, 1) := by decide +kernel
theorem d_Ed_perform_292 : decode prog_5_method_14_code 292 = .ok (.aload_n 1, 1) := by decide +kernel
theorem d_Ed_perform_293 : decode prog_5_method_14_code 293 = .ok (.invokevirtual 197, 3) := by decide +kernel
theorem d_Ed_perform_296 : decode prog_5_method_14_code 296 = .ok (.goto 190, 3) := by decide +kernel
theorem d_Ed_perform_299 : decode prog_5_method_14_code 299 = .ok (.aload_n 0, 1) := by decide +kernel
theorem d_Ed_perform_300 : decode prog_5_method_14_code 300 = .ok (.aload_n 1, 1) := by decide +kernel
theorem d_Ed_perform_301 : decode prog_5_method_14_code 301 = .ok (.invokevirtual 200, 3) := by decide +kernel
theorem d_Ed_perform_304 : decode prog_5_method_14_code 304 = .ok (.goto 182, 3) := by decide +kernel
theorem d_Ed_perform_307 : decode prog_5_method_14_code 307 = .ok (.aload_n 0, 1) := by decide +kernel
theorem d_Ed_perform_308 : decode prog_5_method_14_code 308 = .ok (.aload_n 0, 1) := by decide +kernel
theorem d_Ed_perform_309 : decode prog_5_method_14_code 309 = .ok (.getfield 39, 3) := by decide +kernel
theorem d_Ed_perform_312 : decode prog_5_method_14_code 312 = .ok (.getfield 203, 3) := by decide +kernel
theorem d_Ed_perform_315 : decode prog_5_method_14_code 315 = .ok (.aload_n 1, 1) := by decide +kernel
theorem d_Ed_perform_316 : decode prog_5_method_14_code 316 = .ok (.getfield 206, 3) := by decide +kernel
theorem d_Ed_perform_319 : decode prog_5_method_14_code 319 = .ok (.aload_n 1, 1) := by decide +kernel
theorem d_Ed_perform_320 : decode prog_5_method_14_code 320 = .ok (.getfield 209, 3) := by decide +kernel
theorem d_Ed_perform_323 : decode prog_5_method_14_code 323 = .ok (.invokevirtual 130, 3) := by decide +kernel
theorem d_Ed_perform_326 : decode prog_5_method_14_code 326 = .ok (.goto 160, 3) := by decide +kernel
theorem d_Ed_perform_329 : decode prog_5_method_14_code 329 = .ok (.aload_n 0, 1) := by decide +kernel
theorem d_Ed_perform_330 : decode prog_5_method_14_code 330 = .ok (.aload_n 1, 1) := by decide +kernel
theorem d_Ed_perform_331 : decode prog_5_method_14_code 331 = .ok (.invokevirtual 212, 3) := by decide +kernel
theorem d_Ed_perform_334 : decode prog_5_method_14_code 334 = .ok (.goto 152, 3) := by decide +kernel
theorem d_Ed_perform_337 : decode prog_5_method_14_code 337 = .ok (.aload_n 0, 1) := by decide +kernel
theorem d_Ed_perform_338 : decode prog_5_method_14_code 338 = .ok (.iconst 0, 1) := by decide +kernel
theorem d_Ed_perform_339 : decode prog_5_method_14_code 339 = .ok (.invokevirtual 66, 3) := by decide +kernel
theorem d_Ed_perform_342 : decode prog_5_method_14_code 342 = .ok (.goto 144, 3) := by decide +kernel
theorem d_Ed_perform_345 : decode prog_5_method_14_code 345 = .ok (.aload_n 0, 1) := by decide +kernel
theorem d_Ed_perform_346 : decode prog_5_method_14_code 346 = .ok (.invokevirtual 215, 3) := by decide +kernel
theorem d_Ed_perform_349 : decode prog_5_method_14_code 349 = .ok (.goto 137, 3) := by decide +kernel
theorem d_Ed_perform_352 : decode prog_5_method_14_code 352 = .ok (.aload_n 0, 1) := by decide +kernel
theorem d_Ed_perform_353 : decode prog_5_method_14_code 353 = .ok (.aload_n 0, 1) := by decide +kernel
theorem d_Ed_perform_354 : decode prog_5_method_14_code 354 = .ok (.getfield 20, 3) := by decide +kernel
theorem d_Ed_perform_357 : decode prog_5_method_14_code 357 = .ok (.iconst 0, 1) := by decide +kernel
theorem d_Ed_perform_358 : decode prog_5_method_14_code 358 = .ok (.aload_n 0, 1) := by decide +kernel
theorem d_Ed_perform_359 : decode prog_5_method_14_code 359 = .ok (.getfield 20, 3) := by decide +kernel
theorem d_Ed_perform_362 : decode prog_5_method_14_code 362 = .ok (.getfield 123, 3) := by decide +kernel
theorem d_Ed_perform_365 : decode prog_5_method_14_code 365 = .ok (.invokevirtual 130, 3) := by decide +kernel
theorem d_Ed_perform_368 : decode prog_5_method_14_code 368 = .ok (.goto 118, 3) := by decide +kernel
theorem d_Ed_perform_371 : decode prog_5_method_14_code 371 = .ok (.aload_n 0, 1) := by decide +kernel
theorem d_Ed_perform_372 : decode prog_5_method_14_code 372 = .ok (.aload_n 0, 1) := by decide +kernel
theorem d_Ed_perform_373 : decode prog_5_method_14_code 373 = .ok (.getfield 20, 3) := by decide +kernel
theorem d_Ed_perform_376 : decode prog_5_method_14_code 376 = .ok (.iconst 0, 1) := by decide +kernel
theorem d_Ed_perform_377 : decode prog_5_method_14_code 377 = .ok (.aload_n 0, 1) := by decide +kernel
theorem d_Ed_perform_378 : decode prog_5_method_14_code 378 = .ok (.getfield 20, 3) := by decide +kernel
theorem d_Ed_perform_381 : decode prog_5_method_14_code 381 = .ok (.iconst 0, 1) := by decide +kernel
theorem d_Ed_perform_382 : decode prog_5_method_14_code 382 = .ok (.invokevirtual 218, 3) := by decide +kernel
theorem d_Ed_perform_385 : decode prog_5_method_14_code 385 = .ok (.invokevirtual 130, 3) := by decide +kernel
theorem d_Ed_perform_388 : decode prog_5_method_14_code 388 = .ok (.goto 98, 3) := by decide +kernel
theorem d_Ed_perform_391 : decode prog_5_method_14_code 391 = .ok (.aload_n 0, 1) := by decide +kernel
theorem d_Ed_perform_392 : decode prog_5_method_14_code 392 = .ok (.invokevirtual 222, 3) := by decide +kernel
theorem d_Ed_perform_395 : decode prog_5_method_14_code 395 = .ok (.goto 91, 3) := by decide +kernel
theorem d_Ed_perform_398 : decode prog_5_method_14_code 398 = .ok (.aload_n 0, 1) := by decide +kernel
theorem d_Ed_perform_399 : decode prog_5_method_14_code 399 = .ok (.invokevirtual 225, 3) := by decide +kernel
theorem d_Ed_perform_402 : decode prog_5_method_14_code 402 = .ok (.goto 84, 3) := by decide +kernel
theorem d_Ed_perform_405 : decode prog_5_method_14_code 405 = .ok (.aload_n 0, 1) := by decide +kernel
theorem d_Ed_perform_406 : decode prog_5_method_14_code 406 = .ok (.aload_n 0, 1) := by decide +kernel
theorem d_Ed_perform_407 : decode prog_5_method_14_code 407 = .ok (.getfield 20, 3) := by decide +kernel
theorem d_Ed_perform_410 : decode prog_5_method_14_code 410 = .ok (.aload_n 0, 1) := by decide +kernel
theorem d_Ed_perform_411 : decode prog_5_method_14_code 411 = .ok (.getfield 23, 3) := by decide +kernel
theorem d_Ed_perform_414 : decode prog_5_method_14_code 414 = .ok (.invokevirtual 228, 3) := by decide +kernel
theorem d_Ed_perform_417 : decode prog_5_method_14_code 417 = .ok (.goto 69, 3) := by decide +kernel
theorem d_Ed_perform_420 : decode prog_5_method_14_code 420 = .ok (.aload_n 0, 1) := by decide +kernel
theorem d_Ed_perform_421 : decode prog_5_method_14_code 421 = .ok (.aload_n 0, 1) := by decide +kernel
theorem d_Ed_perform_422 : decode prog_5_method_14_code 422 = .ok (.getfield 20, 3) := by decide +kernel
theorem d_Ed_perform_425 : decode prog_5_method_14_code 425 = .ok (.aload_n 0, 1) := by decide +kernel
theorem d_Ed_perform_426 : decode prog_5_method_14_code 426 = .ok (.getfield 23, 3) := by decide +kernel
theorem d_Ed_perform_429 : decode prog_5_method_14_code 429 = .ok (.invokevirtual 232, 3) := by decide +kernel
theorem d_Ed_perform_432 : decode prog_5_method_14_code 432 = .ok (.goto 54, 3) := by decide +kernel
theorem d_Ed_perform_435 : decode prog_5_method_14_code 435 = .ok (.aload_n 0, 1) := by decide +kernel
theorem d_Ed_perform_436 : decode prog_5_method_14_code 436 = .ok (.aload_n 0, 1) := by decide +kernel
theorem d_Ed_perform_437 : decode prog_5_method_14_code 437 = .ok (.getfield 23, 3) := by decide +kernel
theorem d_Ed_perform_440 : decode prog_5_method_14_code 440 = .ok (.aload_n 0, 1) := by decide +kernel
theorem d_Ed_perform_441 : decode prog_5_method_14_code 441 = .ok (.getfield 20, 3) := by decide +kernel
theorem d_Ed_perform_444 : decode prog_5_method_14_code 444 = .ok (.invokevirtual 228, 3) := by decide +kernel
theorem d_Ed_perform_447 : decode prog_5_method_14_code 447 = .ok (.goto 39, 3) := by decide +kernel
theorem d_Ed_perform_450 : decode prog_5_method_14_code 450 = .ok (.aload_n 0, 1) := by decide +kernel
theorem d_Ed_perform_451 : decode prog_5_method_14_code 451 = .ok (.aload_n 0, 1) := by decide +kernel
theorem d_Ed_perform_452 : decode prog_5_method_14_code 452 = .ok (.getfield 23, 3) := by decide +kernel
theorem d_Ed_perform_455 : decode prog_5_method_14_code 455 = .ok (.aload_n 0, 1) := by decide +kernel
theorem d_Ed_perform_456 : decode prog_5_method_14_code 456 = .ok (.getfield 20, 3) := by decide +kernel
theorem d_Ed_perform_459 : decode prog_5_method_14_code 459 = .ok (.invokevirtual 232, 3) := by decide +kernel
theorem d_Ed_perform_462 : decode prog_5_method_14_code 462 = .ok (.goto 24, 3) := by decide +kernel
theorem d_Ed_perform_465 : decode prog_5_method_14_code 465 = .ok (.aload_n 0, 1) := by decide +kernel
theorem d_Ed_perform_466 : decode prog_5_method_14_code 466 = .ok (.invokevirtual 235, 3) := by decide +kernel
theorem d_Ed_perform_469 : decode prog_5_method_14_code 469 = .ok (.goto 17, 3) := by decide +kernel
theorem d_Ed_perform_472 : decode prog_5_method_14_code 472 = .ok (.aload_n 0, 1) := by decide +kernel
theorem d_Ed_perform_473 : decode prog_5_method_14_code 473 = .ok (.invokevirtual 238, 3) := by decide +kernel
theorem d_Ed_perform_476 : decode prog_5_method_14_code 476 = .ok (.goto 10, 3) := by decide +kernel
theorem d_Ed_perform_479 : decode prog_5_method_14_code 479 = .ok (.aload_n 0, 1) := by decide +kernel
theorem d_Ed_perform_480 : decode prog_5_method_14_code 480 = .ok (.invokevirtual 241, 3) := by decide +kernel
theorem d_Ed_perform_483 : decode prog_5_method_14_code 483 = .ok (.goto 3, 3) := by decide +kernel
theorem d_Ed_perform_486 : decode prog_5_method_14_code 486 = .ok (.return_, 1) := by decide +kernel
theorem d_Ed_edit_0 : decode prog_5_method_2_code 0 = .ok (.aload_n 0, 1) := by decide +kernel
theorem d_Ed_edit_1 : decode prog_5_method_2_code 1 = .ok (.aload_n 1, 1) := by decide +kernel
theorem d_Ed_edit_2 : decode prog_5_method_2_code 2 = .ok (.putfield 39, 3) := by decide +kernel
theorem d_Ed_edit_5 : decode prog_5_method_2_code 5 = .ok (.aload_n 0, 1) := by decide +kernel
theorem d_Ed_edit_6 : decode prog_5_method_2_code 6 = .ok (.aload_n 2, 1) := by decide +kernel
theorem d_Ed_edit_7 : decode prog_5_method_2_code 7 = .ok (.putfield 43, 3) := by decide +kernel
theorem d_Ed_edit_10 : decode prog_5_method_2_code 10 = .ok (.aload_n 0, 1) := by decide +kernel
theorem d_Ed_edit_11 : decode prog_5_method_2_code 11 = .ok (.iload_n 3, 1) := by decide +kernel
theorem d_Ed_edit_12 : decode prog_5_method_2_code 12 = .ok (.putfield 47, 3) := by decide +kernel
theorem d_Ed_edit_15 : decode prog_5_method_2_code 15 = .ok (.aload_n 0, 1) := by decide +kernel
theorem d_Ed_edit_16 : decode prog_5_method_2_code 16 = .ok (.invokevirtual 51, 3) := by decide +kernel
theorem d_Ed_edit_19 : decode prog_5_method_2_code 19 = .ok (.iconst 0, 1) := by decide +kernel
theorem d_Ed_edit_20 : decode prog_5_method_2_code 20 = .ok (.istore 4, 2) := by decide +kernel
theorem d_Ed_edit_22 : decode prog_5_method_2_code 22 = .ok (.iload 4, 2) := by decide +kernel
theorem d_Ed_edit_24 : decode prog_5_method_2_code 24 = .ok (.sipush 1000, 3) := by decide +kernel
theorem d_Ed_edit_27 : decode prog_5_method_2_code 27 = .ok (.if_icmp .ge 127, 3) := by decide +kernel
theorem d_Ed_edit_30 : decode prog_5_method_2_code 30 = .ok (.aload_n 0, 1) := by decide +kernel
theorem d_Ed_edit_31 : decode prog_5_method_2_code 31 = .ok (.getfield 54, 3) := by decide +kernel
theorem d_Ed_edit_34 : decode prog_5_method_2_code 34 = .ok (.ifCond .ne 120, 3) := by decide +kernel
theorem d_Ed_edit_37 : decode prog_5_method_2_code 37 = .ok (.aload_n 0, 1) := by decide +kernel
theorem d_Ed_edit_38 : decode prog_5_method_2_code 38 = .ok (.getfield 58, 3) := by decide +kernel
theorem d_Ed_edit_41 : decode prog_5_method_2_code 41 = .ok (.aload_n 0, 1) := by decide +kernel
theorem d_Ed_edit_42 : decode prog_5_method_2_code 42 = .ok (.getfield 39, 3) := by decide +kernel
theorem d_Ed_edit_45 : decode prog_5_method_2_code 45 = .ok (.getfield 61, 3) := by decide +kernel
theorem d_Ed_edit_48 : decode prog_5_method_2_code 48 = .ok (.if_icmp .lt 11, 3) := by decide +kernel
theorem d_Ed_edit_51 : decode prog_5_method_2_code 51 = .ok (.aload_n 0, 1) := by decide +kernel
theorem d_Ed_edit_52 : decode prog_5_method_2_code 52 = .ok (.iconst 1, 1) := by decide +kernel
theorem d_Ed_edit_53 : decode prog_5_method_2_code 53 = .ok (.invokevirtual 66, 3) := by decide +kernel
theorem d_Ed_edit_56 : decode prog_5_method_2_code 56 = .ok (.goto 92, 3) := by decide +kernel
theorem d_Ed_edit_59 : decode prog_5_method_2_code 59 = .ok (.aload_n 0, 1) := by decide +kernel
theorem d_Ed_edit_60 : decode prog_5_method_2_code 60 = .ok (.getfield 70, 3) := by decide +kernel
theorem d_Ed_edit_63 : decode prog_5_method_2_code 63 = .ok (.sipush 200, 3) := by decide +kernel
theorem d_Ed_edit_66 : decode prog_5_method_2_code 66 = .ok (.if_icmp .ne 11, 3) := by decide +kernel
theorem d_Ed_edit_69 : decode prog_5_method_2_code 69 = .ok (.new 73, 3) := by decide +kernel
theorem d_Ed_edit_72 : decode prog_5_method_2_code 72 = .ok (.dup, 1) := by decide +kernel
theorem d_Ed_edit_73 : decode prog_5_method_2_code 73 = .ok (.invokespecial 75, 3) := by decide +kernel
theorem d_Ed_edit_76 : decode prog_5_method_2_code 76 = .ok (.athrow, 1) := by decide +kernel
theorem d_Ed_edit_77 : decode prog_5_method_2_code 77 = .ok (.aload_n 0, 1) := by decide +kernel
theorem d_Ed_edit_78 : decode prog_5_method_2_code 78 = .ok (.dup, 1) := by decide +kernel
theorem d_Ed_edit_79 : decode prog_5_method_2_code 79 = .ok (.getfield 70, 3) := by decide +kernel
theorem d_Ed_edit_82 : decode prog_5_method_2_code 82 = .ok (.iconst 1, 1) := by decide +kernel
theorem d_Ed_edit_83 : decode prog_5_method_2_code 83 = .ok (.iadd, 1) := by decide +kernel
theorem d_Ed_edit_84 : decode prog_5_method_2_code 84 = .ok (.putfield 70, 3) := by decide +kernel
theorem d_Ed_edit_87 : decode prog_5_method_2_code 87 = .ok (.aload_n 0, 1) := by decide +kernel
theorem d_Ed_edit_88 : decode prog_5_method_2_code 88 = .ok (.getfield 39, 3) := by decide +kernel
theorem d_Ed_edit_91 : decode prog_5_method_2_code 91 = .ok (.getfield 76, 3) := by decide +kernel
theorem d_Ed_edit_94 : decode prog_5_method_2_code 94 = .ok (.aload_n 0, 1) := by decide +kernel
theorem d_Ed_edit_95 : decode prog_5_method_2_code 95 = .ok (.getfield 58, 3) := by decide +kernel
theorem d_Ed_edit_98 : decode prog_5_method_2_code 98 = .ok (.aaload, 1) := by decide +kernel
theorem d_Ed_edit_99 : decode prog_5_method_2_code 99 = .ok (.astore 5, 2) := by decide +kernel
theorem d_Ed_edit_101 : decode prog_5_method_2_code 101 = .ok (.aload_n 0, 1) := by decide +kernel
theorem d_Ed_edit_102 : decode prog_5_method_2_code 102 = .ok (.dup, 1) := by decide +kernel
theorem d_Ed_edit_103 : decode prog_5_method_2_code 103 = .ok (.getfield 58, 3) := by decide +kernel
theorem d_Ed_edit_106 : decode prog_5_method_2_code 106 = .ok (.iconst 1, 1) := by decide +kernel
theorem d_Ed_edit_107 : decode prog_5_method_2_code 107 = .ok (.iadd, 1) := by decide +kernel
theorem d_Ed_edit_108 : decode prog_5_method_2_code 108 = .ok (.putfield 58, 3) := by decide +kernel
theorem d_Ed_edit_111 : decode prog_5_method_2_code 111 = .ok (.aload_n 0, 1) := by decide +kernel
theorem d_Ed_edit_112 : decode prog_5_method_2_code 112 = .ok (.aload 5, 2) := by decide +kernel
theorem d_Ed_edit_114 : decode prog_5_method_2_code 114 = .ok (.invokevirtual 80, 3) := by decide +kernel
theorem d_Ed_edit_117 : decode prog_5_method_2_code 117 = .ok (.ifCond .eq 12, 3) := by decide +kernel
theorem d_Ed_edit_120 : decode prog_5_method_2_code 120 = .ok (.aload_n 0, 1) := by decide +kernel
theorem d_Ed_edit_121 : decode prog_5_method_2_code 121 = .ok (.aload 5, 2) := by decide +kernel
theorem d_Ed_edit_123 : decode prog_5_method_2_code 123 = .ok (.invokevirtual 84, 3) := by decide +kernel
theorem d_Ed_edit_126 : decode prog_5_method_2_code 126 = .ok (.goto 22, 3) := by decide +kernel
theorem d_Ed_edit_129 : decode prog_5_method_2_code 129 = .ok (.aload 5, 2) := by decide +kernel
theorem d_Ed_edit_131 : decode prog_5_method_2_code 131 = .ok (.getfield 88, 3) := by decide +kernel
theorem d_Ed_edit_134 : decode prog_5_method_2_code 134 = .ok (.bipush 123, 2) := by decide +kernel
theorem d_Ed_edit_136 : decode prog_5_method_2_code 136 = .ok (.if_icmp .ne 12, 3) := by decide +kernel
theorem d_Ed_edit_139 : decode prog_5_method_2_code 139 = .ok (.aload_n 0, 1) := by decide +kernel
theorem d_Ed_edit_140 : decode prog_5_method_2_code 140 = .ok (.aload 5, 2) := by decide +kernel
theorem d_Ed_edit_142 : decode prog_5_method_2_code 142 = .ok (.getfield 93, 3) := by decide +kernel
theorem d_Ed_edit_145 : decode prog_5_method_2_code 145 = .ok (.putfield 58, 3) := by decide +kernel
theorem d_Ed_edit_148 : decode prog_5_method_2_code 148 = .ok (.iinc 4 1, 3) := by decide +kernel
theorem d_Ed_edit_151 : decode prog_5_method_2_code 151 = .ok (.goto (-129), 3) := by decide +kernel
theorem d_Ed_edit_154 : decode prog_5_method_2_code 154 = .ok (.return_, 1) := by decide +kernel
theorem d_SF_script_0 : decode prog_1_method_2_code 0 = .ok (.lload_n 1, 1) := by decide +kernel
theorem d_SF_script_1 : decode prog_1_method_2_code 1 = .ok (.iconst 1, 1) := by decide +kernel
theorem d_SF_script_2 : decode prog_1_method_2_code 2 = .ok (.invokestatic 57, 3) := by decide +kernel
theorem d_SF_script_5 : decode prog_1_method_2_code 5 = .ok (.ifCond .ne 11, 3) := by decide +kernel
theorem d_SF_script_8 : decode prog_1_method_2_code 8 = .ok (.new 61, 3) := by decide +kernel
theorem d_SF_script_11 : decode prog_1_method_2_code 11 = .ok (.dup, 1) := by decide +kernel
theorem d_SF_script_12 : decode prog_1_method_2_code 12 = .ok (.invokespecial 63, 3) := by decide +kernel
theorem d_SF_script_15 : decode prog_1_method_2_code 15 = .ok (.athrow, 1) := by decide +kernel
theorem d_SF_script_16 : decode prog_1_method_2_code 16 = .ok (.aload_n 0, 1) := by decide +kernel
theorem d_SF_script_17 : decode prog_1_method_2_code 17 = .ok (.getfield 14, 3) := by decide +kernel
theorem d_SF_script_20 : decode prog_1_method_2_code 20 = .ok (.lload_n 1, 1) := by decide +kernel
theorem d_SF_script_21 : decode prog_1_method_2_code 21 = .ok (.invokestatic 64, 3) := by decide +kernel
theorem d_SF_script_24 : decode prog_1_method_2_code 24 = .ok (.invokevirtual 68, 3) := by decide +kernel
theorem d_SF_script_27 : decode prog_1_method_2_code 27 = .ok (.ifCond .ne 11, 3) := by decide +kernel
theorem d_SF_script_30 : decode prog_1_method_2_code 30 = .ok (.new 72, 3) := by decide +kernel
theorem d_SF_script_33 : decode prog_1_method_2_code 33 = .ok (.dup, 1) := by decide +kernel
theorem d_SF_script_34 : decode prog_1_method_2_code 34 = .ok (.invokespecial 74, 3) := by decide +kernel
theorem d_SF_script_37 : decode prog_1_method_2_code 37 = .ok (.athrow, 1) := by decide +kernel
theorem d_SF_script_38 : decode prog_1_method_2_code 38 = .ok (.aload_n 0, 1) := by decide +kernel
theorem d_SF_script_39 : decode prog_1_method_2_code 39 = .ok (.getfield 14, 3) := by decide +kernel
theorem d_SF_script_42 : decode prog_1_method_2_code 42 = .ok (.lload_n 1, 1) := by decide +kernel
theorem d_SF_script_43 : decode prog_1_method_2_code 43 = .ok (.invokestatic 75, 3) := by decide +kernel
theorem d_SF_script_46 : decode prog_1_method_2_code 46 = .ok (.aload_n 0, 1) := by decide +kernel
theorem d_SF_script_47 : decode prog_1_method_2_code 47 = .ok (.getfield 14, 3) := by decide +kernel
theorem d_SF_script_50 : decode prog_1_method_2_code 50 = .ok (.getfield 79, 3) := by decide +kernel
theorem d_SF_script_53 : decode prog_1_method_2_code 53 = .ok (.ireturn, 1) := by decide +kernel
theorem d_SF_clear_0 : decode prog_1_method_3_code 0 = .ok (.iload_n 1, 1) := by decide +kernel
theorem d_SF_clear_1 : decode prog_1_method_3_code 1 = .ok (.ifCond .ne 20, 3) := by decide +kernel
theorem d_SF_clear_4 : decode prog_1_method_3_code 4 = .ok (.aload_n 0, 1) := by decide +kernel
theorem d_SF_clear_5 : decode prog_1_method_3_code 5 = .ok (.getfield 14, 3) := by decide +kernel
theorem d_SF_clear_8 : decode prog_1_method_3_code 8 = .ok (.getfield 79, 3) := by decide +kernel
theorem d_SF_clear_11 : decode prog_1_method_3_code 11 = .ok (.istore_n 2, 1) := by decide +kernel
theorem d_SF_clear_12 : decode prog_1_method_3_code 12 = .ok (.aload_n 0, 1) := by decide +kernel
theorem d_SF_clear_13 : decode prog_1_method_3_code 13 = .ok (.getfield 14, 3) := by decide +kernel
theorem d_SF_clear_16 : decode prog_1_method_3_code 16 = .ok (.invokevirtual 82, 3) := by decide +kernel
theorem d_SF_clear_19 : decode prog_1_method_3_code 19 = .ok (.iload_n 2, 1) := by decide +kernel
theorem d_SF_clear_20 : decode prog_1_method_3_code 20 = .ok (.ireturn, 1) := by decide +kernel
theorem d_SF_clear_21 : decode prog_1_method_3_code 21 = .ok (.iload_n 1, 1) := by decide +kernel
theorem d_SF_clear_22 : decode prog_1_method_3_code 22 = .ok (.iconst 1, 1) := by decide +kernel
theorem d_SF_clear_23 : decode prog_1_method_3_code 23 = .ok (.if_icmp .ne 15, 3) := by decide +kernel
theorem d_SF_clear_26 : decode prog_1_method_3_code 26 = .ok (.aload_n 0, 1) := by decide +kernel
theorem d_SF_clear_27 : decode prog_1_method_3_code 27 = .ok (.getfield 85, 3) := by decide +kernel
theorem d_SF_clear_30 : decode prog_1_method_3_code 30 = .ok (.istore_n 2, 1) := by decide +kernel
theorem d_SF_clear_31 : decode prog_1_method_3_code 31 = .ok (.aload_n 0, 1) := by decide +kernel
theorem d_SF_clear_32 : decode prog_1_method_3_code 32 = .ok (.iconst 0, 1) := by decide +kernel
theorem d_SF_clear_33 : decode prog_1_method_3_code 33 = .ok (.putfield 85, 3) := by decide +kernel
theorem d_SF_clear_36 : decode prog_1_method_3_code 36 = .ok (.iload_n 2, 1) := by decide +kernel
theorem d_SF_clear_37 : decode prog_1_method_3_code 37 = .ok (.ireturn, 1) := by decide +kernel
theorem d_SF_clear_38 : decode prog_1_method_3_code 38 = .ok (.new 61, 3) := by decide +kernel
theorem d_SF_clear_41 : decode prog_1_method_3_code 41 = .ok (.dup, 1) := by decide +kernel
theorem d_SF_clear_42 : decode prog_1_method_3_code 42 = .ok (.invokespecial 63, 3) := by decide +kernel
theorem d_SF_clear_45 : decode prog_1_method_3_code 45 = .ok (.athrow, 1) := by decide +kernel
theorem d_SF_parse_0 : decode prog_1_method_4_code 0 = .ok (.aload_n 0, 1) := by decide +kernel
theorem d_SF_parse_1 : decode prog_1_method_4_code 1 = .ok (.getfield 25, 3) := by decide +kernel
theorem d_SF_parse_4 : decode prog_1_method_4_code 4 = .ok (.aload_n 0, 1) := by decide +kernel
theorem d_SF_parse_5 : decode prog_1_method_4_code 5 = .ok (.getfield 14, 3) := by decide +kernel
theorem d_SF_parse_8 : decode prog_1_method_4_code 8 = .ok (.aload_n 0, 1) := by decide +kernel
theorem d_SF_parse_9 : decode prog_1_method_4_code 9 = .ok (.getfield 50, 3) := by decide +kernel
theorem d_SF_parse_12 : decode prog_1_method_4_code 12 = .ok (.invokevirtual 88, 3) := by decide +kernel
theorem d_SF_parse_15 : decode prog_1_method_4_code 15 = .ok (.ifCond .ne 22, 3) := by decide +kernel
theorem d_SF_parse_18 : decode prog_1_method_4_code 18 = .ok (.aload_n 0, 1) := by decide +kernel
theorem d_SF_parse_19 : decode prog_1_method_4_code 19 = .ok (.aload_n 0, 1) := by decide +kernel
theorem d_SF_parse_20 : decode prog_1_method_4_code 20 = .ok (.getfield 25, 3) := by decide +kernel
theorem d_SF_parse_23 : decode prog_1_method_4_code 23 = .ok (.invokevirtual 92, 3) := by decide +kernel
theorem d_SF_parse_26 : decode prog_1_method_4_code 26 = .ok (.putfield 53, 3) := by decide +kernel
theorem d_SF_parse_29 : decode prog_1_method_4_code 29 = .ok (.new 61, 3) := by decide +kernel
theorem d_SF_parse_32 : decode prog_1_method_4_code 32 = .ok (.dup, 1) := by decide +kernel
theorem d_SF_parse_33 : decode prog_1_method_4_code 33 = .ok (.invokespecial 63, 3) := by decide +kernel
theorem d_SF_parse_36 : decode prog_1_method_4_code 36 = .ok (.athrow, 1) := by decide +kernel
theorem d_SF_parse_37 : decode prog_1_method_4_code 37 = .ok (.aload_n 0, 1) := by decide +kernel
theorem d_SF_parse_38 : decode prog_1_method_4_code 38 = .ok (.bipush (-2), 2) := by decide +kernel
theorem d_SF_parse_40 : decode prog_1_method_4_code 40 = .ok (.putfield 53, 3) := by decide +kernel
theorem d_SF_parse_43 : decode prog_1_method_4_code 43 = .ok (.aload_n 0, 1) := by decide +kernel
theorem d_SF_parse_44 : decode prog_1_method_4_code 44 = .ok (.getfield 46, 3) := by decide +kernel
theorem d_SF_parse_47 : decode prog_1_method_4_code 47 = .ok (.astore_n 1, 1) := by decide +kernel
theorem d_SF_parse_48 : decode prog_1_method_4_code 48 = .ok (.aload_n 0, 1) := by decide +kernel
theorem d_SF_parse_49 : decode prog_1_method_4_code 49 = .ok (.aload_n 0, 1) := by decide +kernel
theorem d_SF_parse_50 : decode prog_1_method_4_code 50 = .ok (.getfield 50, 3) := by decide +kernel
theorem d_SF_parse_53 : decode prog_1_method_4_code 53 = .ok (.putfield 46, 3) := by decide +kernel
theorem d_SF_parse_56 : decode prog_1_method_4_code 56 = .ok (.aload_n 0, 1) := by decide +kernel
theorem d_SF_parse_57 : decode prog_1_method_4_code 57 = .ok (.aload_n 1, 1) := by decide +kernel
theorem d_SF_parse_58 : decode prog_1_method_4_code 58 = .ok (.putfield 50, 3) := by decide +kernel
theorem d_SF_parse_61 : decode prog_1_method_4_code 61 = .ok (.aload_n 0, 1) := by decide +kernel
theorem d_SF_parse_62 : decode prog_1_method_4_code 62 = .ok (.iconst 1, 1) := by decide +kernel
theorem d_SF_parse_63 : decode prog_1_method_4_code 63 = .ok (.putfield 95, 3) := by decide +kernel
theorem d_SF_parse_66 : decode prog_1_method_4_code 66 = .ok (.aload_n 0, 1) := by decide +kernel
theorem d_SF_parse_67 : decode prog_1_method_4_code 67 = .ok (.getfield 46, 3) := by decide +kernel
theorem d_SF_parse_70 : decode prog_1_method_4_code 70 = .ok (.getfield 99, 3) := by decide +kernel
theorem d_SF_parse_73 : decode prog_1_method_4_code 73 = .ok (.ireturn, 1) := by decide +kernel
theorem d_SF_line_0 : decode prog_1_method_6_code 0 = .ok (.lload_n 1, 1) := by decide +kernel
theorem d_SF_line_1 : decode prog_1_method_6_code 1 = .ok (.iconst 0, 1) := by decide +kernel
theorem d_SF_line_2 : decode prog_1_method_6_code 2 = .ok (.invokestatic 57, 3) := by decide +kernel
theorem d_SF_line_5 : decode prog_1_method_6_code 5 = .ok (.ifCond .eq 11, 3) := by decide +kernel
theorem d_SF_line_8 : decode prog_1_method_6_code 8 = .ok (.lload_n 3, 1) := by decide +kernel
theorem d_SF_line_9 : decode prog_1_method_6_code 9 = .ok (.iconst 0, 1) := by decide +kernel
theorem d_SF_line_10 : decode prog_1_method_6_code 10 = .ok (.invokestatic 57, 3) := by decide +kernel
theorem d_SF_line_13 : decode prog_1_method_6_code 13 = .ok (.ifCond .ne 11, 3) := by decide +kernel
theorem d_SF_line_16 : decode prog_1_method_6_code 16 = .ok (.new 61, 3) := by decide +kernel
theorem d_SF_line_19 : decode prog_1_method_6_code 19 = .ok (.dup, 1) := by decide +kernel
theorem d_SF_line_20 : decode prog_1_method_6_code 20 = .ok (.invokespecial 63, 3) := by decide +kernel
theorem d_SF_line_23 : decode prog_1_method_6_code 23 = .ok (.athrow, 1) := by decide +kernel
theorem d_SF_line_24 : decode prog_1_method_6_code 24 = .ok (.aload_n 0, 1) := by decide +kernel
theorem d_SF_line_25 : decode prog_1_method_6_code 25 = .ok (.getfield 85, 3) := by decide +kernel
theorem d_SF_line_28 : decode prog_1_method_6_code 28 = .ok (.bipush 12, 2) := by decide +kernel
theorem d_SF_line_30 : decode prog_1_method_6_code 30 = .ok (.if_icmp .lt 11, 3) := by decide +kernel
theorem d_SF_line_33 : decode prog_1_method_6_code 33 = .ok (.new 72, 3) := by decide +kernel
theorem d_SF_line_36 : decode prog_1_method_6_code 36 = .ok (.dup, 1) := by decide +kernel
theorem d_SF_line_37 : decode prog_1_method_6_code 37 = .ok (.invokespecial 74, 3) := by decide +kernel
theorem d_SF_line_40 : decode prog_1_method_6_code 40 = .ok (.athrow, 1) := by decide +kernel
theorem d_SF_line_41 : decode prog_1_method_6_code 41 = .ok (.aload_n 0, 1) := by decide +kernel
theorem d_SF_line_42 : decode prog_1_method_6_code 42 = .ok (.getfield 18, 3) := by decide +kernel
theorem d_SF_line_45 : decode prog_1_method_6_code 45 = .ok (.aload_n 0, 1) := by decide +kernel
theorem d_SF_line_46 : decode prog_1_method_6_code 46 = .ok (.getfield 85, 3) := by decide +kernel
theorem d_SF_line_49 : decode prog_1_method_6_code 49 = .ok (.aaload, 1) := by decide +kernel
theorem d_SF_line_50 : decode prog_1_method_6_code 50 = .ok (.astore 5, 2) := by decide +kernel
theorem d_SF_line_52 : decode prog_1_method_6_code 52 = .ok (.aload 5, 2) := by decide +kernel
theorem d_SF_line_54 : decode prog_1_method_6_code 54 = .ok (.invokevirtual 82, 3) := by decide +kernel
theorem d_SF_line_57 : decode prog_1_method_6_code 57 = .ok (.aload 5, 2) := by decide +kernel
theorem d_SF_line_59 : decode prog_1_method_6_code 59 = .ok (.lload_n 1, 1) := by decide +kernel
theorem d_SF_line_60 : decode prog_1_method_6_code 60 = .ok (.invokestatic 75, 3) := by decide +kernel
theorem d_SF_line_63 : decode prog_1_method_6_code 63 = .ok (.aload 5, 2) := by decide +kernel
theorem d_SF_line_65 : decode prog_1_method_6_code 65 = .ok (.lload_n 3, 1) := by decide +kernel
theorem d_SF_line_66 : decode prog_1_method_6_code 66 = .ok (.invokestatic 75, 3) := by decide +kernel
theorem d_SF_line_69 : decode prog_1_method_6_code 69 = .ok (.aload_n 0, 1) := by decide +kernel
theorem d_SF_line_70 : decode prog_1_method_6_code 70 = .ok (.dup, 1) := by decide +kernel
theorem d_SF_line_71 : decode prog_1_method_6_code 71 = .ok (.getfield 85, 3) := by decide +kernel
theorem d_SF_line_74 : decode prog_1_method_6_code 74 = .ok (.iconst 1, 1) := by decide +kernel
theorem d_SF_line_75 : decode prog_1_method_6_code 75 = .ok (.iadd, 1) := by decide +kernel
theorem d_SF_line_76 : decode prog_1_method_6_code 76 = .ok (.putfield 85, 3) := by decide +kernel
theorem d_SF_line_79 : decode prog_1_method_6_code 79 = .ok (.aload_n 0, 1) := by decide +kernel
theorem d_SF_line_80 : decode prog_1_method_6_code 80 = .ok (.getfield 85, 3) := by decide +kernel
theorem d_SF_line_83 : decode prog_1_method_6_code 83 = .ok (.ireturn, 1) := by decide +kernel
theorem d_SF_more_0 : decode prog_1_method_7_code 0 = .ok (.lload_n 1, 1) := by decide +kernel
theorem d_SF_more_1 : decode prog_1_method_7_code 1 = .ok (.iconst 0, 1) := by decide +kernel
theorem d_SF_more_2 : decode prog_1_method_7_code 2 = .ok (.invokestatic 57, 3) := by decide +kernel
theorem d_SF_more_5 : decode prog_1_method_7_code 5 = .ok (.ifCond .ne 11, 3) := by decide +kernel
theorem d_SF_more_8 : decode prog_1_method_7_code 8 = .ok (.new 61, 3) := by decide +kernel
theorem d_SF_more_11 : decode prog_1_method_7_code 11 = .ok (.dup, 1) := by decide +kernel
theorem d_SF_more_12 : decode prog_1_method_7_code 12 = .ok (.invokespecial 63, 3) := by decide +kernel
theorem d_SF_more_15 : decode prog_1_method_7_code 15 = .ok (.athrow, 1) := by decide +kernel
theorem d_SF_more_16 : decode prog_1_method_7_code 16 = .ok (.aload_n 0, 1) := by decide +kernel
theorem d_SF_more_17 : decode prog_1_method_7_code 17 = .ok (.getfield 85, 3) := by decide +kernel
theorem d_SF_more_20 : decode prog_1_method_7_code 20 = .ok (.ifCond .eq 24, 3) := by decide +kernel
theorem d_SF_more_23 : decode prog_1_method_7_code 23 = .ok (.aload_n 0, 1) := by decide +kernel
theorem d_SF_more_24 : decode prog_1_method_7_code 24 = .ok (.getfield 18, 3) := by decide +kernel
theorem d_SF_more_27 : decode prog_1_method_7_code 27 = .ok (.aload_n 0, 1) := by decide +kernel
theorem d_SF_more_28 : decode prog_1_method_7_code 28 = .ok (.getfield 85, 3) := by decide +kernel
theorem d_SF_more_31 : decode prog_1_method_7_code 31 = .ok (.iconst 1, 1) := by decide +kernel
theorem d_SF_more_32 : decode prog_1_method_7_code 32 = .ok (.isub, 1) := by decide +kernel
theorem d_SF_more_33 : decode prog_1_method_7_code 33 = .ok (.aaload, 1) := by decide +kernel
theorem d_SF_more_34 : decode prog_1_method_7_code 34 = .ok (.lload_n 1, 1) := by decide +kernel
theorem d_SF_more_35 : decode prog_1_method_7_code 35 = .ok (.invokestatic 64, 3) := by decide +kernel
theorem d_SF_more_38 : decode prog_1_method_7_code 38 = .ok (.invokevirtual 68, 3) := by decide +kernel
theorem d_SF_more_41 : decode prog_1_method_7_code 41 = .ok (.ifCond .ne 11, 3) := by decide +kernel
theorem d_SF_more_44 : decode prog_1_method_7_code 44 = .ok (.new 72, 3) := by decide +kernel
theorem d_SF_more_47 : decode prog_1_method_7_code 47 = .ok (.dup, 1) := by decide +kernel
theorem d_SF_more_48 : decode prog_1_method_7_code 48 = .ok (.invokespecial 74, 3) := by decide +kernel
theorem d_SF_more_51 : decode prog_1_method_7_code 51 = .ok (.athrow, 1) := by decide +kernel
theorem d_SF_more_52 : decode prog_1_method_7_code 52 = .ok (.aload_n 0, 1) := by decide +kernel
theorem d_SF_more_53 : decode prog_1_method_7_code 53 = .ok (.getfield 18, 3) := by decide +kernel
theorem d_SF_more_56 : decode prog_1_method_7_code 56 = .ok (.aload_n 0, 1) := by decide +kernel
theorem d_SF_more_57 : decode prog_1_method_7_code 57 = .ok (.getfield 85, 3) := by decide +kernel
theorem d_SF_more_60 : decode prog_1_method_7_code 60 = .ok (.iconst 1, 1) := by decide +kernel
theorem d_SF_more_61 : decode prog_1_method_7_code 61 = .ok (.isub, 1) := by decide +kernel
theorem d_SF_more_62 : decode prog_1_method_7_code 62 = .ok (.aaload, 1) := by decide +kernel
theorem d_SF_more_63 : decode prog_1_method_7_code 63 = .ok (.astore_n 3, 1) := by decide +kernel
theorem d_SF_more_64 : decode prog_1_method_7_code 64 = .ok (.aload_n 3, 1) := by decide +kernel
theorem d_SF_more_65 : decode prog_1_method_7_code 65 = .ok (.lload_n 1, 1) := by decide +kernel
theorem d_SF_more_66 : decode prog_1_method_7_code 66 = .ok (.invokestatic 75, 3) := by decide +kernel
theorem d_SF_more_69 : decode prog_1_method_7_code 69 = .ok (.aload_n 3, 1) := by decide +kernel
theorem d_SF_more_70 : decode prog_1_method_7_code 70 = .ok (.getfield 79, 3) := by decide +kernel
theorem d_SF_more_73 : decode prog_1_method_7_code 73 = .ok (.ireturn, 1) := by decide +kernel
theorem d_SF_run_0 : decode prog_1_method_8_code 0 = .ok (.aload_n 0, 1) := by decide +kernel
theorem d_SF_run_1 : decode prog_1_method_8_code 1 = .ok (.getfield 95, 3) := by decide +kernel
theorem d_SF_run_4 : decode prog_1_method_8_code 4 = .ok (.ifCond .ne 11, 3) := by decide +kernel
theorem d_SF_run_7 : decode prog_1_method_8_code 7 = .ok (.new 72, 3) := by decide +kernel
theorem d_SF_run_10 : decode prog_1_method_8_code 10 = .ok (.dup, 1) := by decide +kernel
theorem d_SF_run_11 : decode prog_1_method_8_code 11 = .ok (.invokespecial 74, 3) := by decide +kernel
theorem d_SF_run_14 : decode prog_1_method_8_code 14 = .ok (.athrow, 1) := by decide +kernel
theorem d_SF_run_15 : decode prog_1_method_8_code 15 = .ok (.aload_n 0, 1) := by decide +kernel
theorem d_SF_run_16 : decode prog_1_method_8_code 16 = .ok (.getfield 32, 3) := by decide +kernel
theorem d_SF_run_19 : decode prog_1_method_8_code 19 = .ok (.aload_n 0, 1) := by decide +kernel
theorem d_SF_run_20 : decode prog_1_method_8_code 20 = .ok (.getfield 46, 3) := by decide +kernel
theorem d_SF_run_23 : decode prog_1_method_8_code 23 = .ok (.aload_n 0, 1) := by decide +kernel
theorem d_SF_run_24 : decode prog_1_method_8_code 24 = .ok (.getfield 18, 3) := by decide +kernel
theorem d_SF_run_27 : decode prog_1_method_8_code 27 = .ok (.aload_n 0, 1) := by decide +kernel
theorem d_SF_run_28 : decode prog_1_method_8_code 28 = .ok (.getfield 85, 3) := by decide +kernel
theorem d_SF_run_31 : decode prog_1_method_8_code 31 = .ok (.invokevirtual 102, 3) := by decide +kernel
theorem d_SF_run_34 : decode prog_1_method_8_code 34 = .ok (.aload_n 0, 1) := by decide +kernel
theorem d_SF_run_35 : decode prog_1_method_8_code 35 = .ok (.getfield 32, 3) := by decide +kernel
theorem d_SF_run_38 : decode prog_1_method_8_code 38 = .ok (.getfield 106, 3) := by decide +kernel
theorem d_SF_run_41 : decode prog_1_method_8_code 41 = .ok (.getfield 79, 3) := by decide +kernel
theorem d_SF_run_44 : decode prog_1_method_8_code 44 = .ok (.ireturn, 1) := by decide +kernel
theorem d_SF_out_0 : decode prog_1_method_9_code 0 = .ok (.aload_n 0, 1) := by decide +kernel
theorem d_SF_out_1 : decode prog_1_method_9_code 1 = .ok (.getfield 32, 3) := by decide +kernel
theorem d_SF_out_4 : decode prog_1_method_9_code 4 = .ok (.getfield 106, 3) := by decide +kernel
theorem d_SF_out_7 : decode prog_1_method_9_code 7 = .ok (.iload_n 1, 1) := by decide +kernel
theorem d_SF_out_8 : decode prog_1_method_9_code 8 = .ok (.invokevirtual 109, 3) := by decide +kernel
theorem d_SF_out_11 : decode prog_1_method_9_code 11 = .ok (.istore_n 2, 1) := by decide +kernel
theorem d_SF_out_12 : decode prog_1_method_9_code 12 = .ok (.iload_n 2, 1) := by decide +kernel
theorem d_SF_out_13 : decode prog_1_method_9_code 13 = .ok (.iconst (-1), 1) := by decide +kernel
theorem d_SF_out_14 : decode prog_1_method_9_code 14 = .ok (.if_icmp .ne 11, 3) := by decide +kernel
theorem d_SF_out_17 : decode prog_1_method_9_code 17 = .ok (.new 113, 3) := by decide +kernel
theorem d_SF_out_20 : decode prog_1_method_9_code 20 = .ok (.dup, 1) := by decide +kernel
theorem d_SF_out_21 : decode prog_1_method_9_code 21 = .ok (.invokespecial 115, 3) := by decide +kernel
theorem d_SF_out_24 : decode prog_1_method_9_code 24 = .ok (.athrow, 1) := by decide +kernel
theorem d_SF_out_25 : decode prog_1_method_9_code 25 = .ok (.iload_n 2, 1) := by decide +kernel
theorem d_SF_out_26 : decode prog_1_method_9_code 26 = .ok (.ireturn, 1) := by decide +kernel
theorem d_SF_ran_0 : decode prog_1_method_10_code 0 = .ok (.iload_n 1, 1) := by decide +kernel
theorem d_SF_ran_1 : decode prog_1_method_10_code 1 = .ok (.bipush 10, 2) := by decide +kernel
theorem d_SF_ran_3 : decode prog_1_method_10_code 3 = .ok (.if_icmp .lt 24, 3) := by decide +kernel
theorem d_SF_ran_6 : decode prog_1_method_10_code 6 = .ok (.iload_n 1, 1) := by decide +kernel
theorem d_SF_ran_7 : decode prog_1_method_10_code 7 = .ok (.bipush 70, 2) := by decide +kernel
theorem d_SF_ran_9 : decode prog_1_method_10_code 9 = .ok (.if_icmp .ge 18, 3) := by decide +kernel
theorem d_SF_ran_12 : decode prog_1_method_10_code 12 = .ok (.aload_n 0, 1) := by decide +kernel
theorem d_SF_ran_13 : decode prog_1_method_10_code 13 = .ok (.getfield 32, 3) := by decide +kernel
theorem d_SF_ran_16 : decode prog_1_method_10_code 16 = .ok (.getfield 116, 3) := by decide +kernel
theorem d_SF_ran_19 : decode prog_1_method_10_code 19 = .ok (.iload_n 1, 1) := by decide +kernel
theorem d_SF_ran_20 : decode prog_1_method_10_code 20 = .ok (.bipush 10, 2) := by decide +kernel
theorem d_SF_ran_22 : decode prog_1_method_10_code 22 = .ok (.isub, 1) := by decide +kernel
theorem d_SF_ran_23 : decode prog_1_method_10_code 23 = .ok (.invokevirtual 109, 3) := by decide +kernel
theorem d_SF_ran_26 : decode prog_1_method_10_code 26 = .ok (.ireturn, 1) := by decide +kernel
theorem d_SF_ran_27 : decode prog_1_method_10_code 27 = .ok (.iload_n 1, 1) := by decide +kernel
theorem d_SF_ran_28 : decode prog_1_method_10_code 28 = .ok (.bipush 100, 2) := by decide +kernel
theorem d_SF_ran_30 : decode prog_1_method_10_code 30 = .ok (.if_icmp .lt 25, 3) := by decide +kernel
theorem d_SF_ran_33 : decode prog_1_method_10_code 33 = .ok (.iload_n 1, 1) := by decide +kernel
theorem d_SF_ran_34 : decode prog_1_method_10_code 34 = .ok (.sipush 160, 3) := by decide +kernel
theorem d_SF_ran_37 : decode prog_1_method_10_code 37 = .ok (.if_icmp .ge 18, 3) := by decide +kernel
theorem d_SF_ran_40 : decode prog_1_method_10_code 40 = .ok (.aload_n 0, 1) := by decide +kernel
theorem d_SF_ran_41 : decode prog_1_method_10_code 41 = .ok (.getfield 32, 3) := by decide +kernel
theorem d_SF_ran_44 : decode prog_1_method_10_code 44 = .ok (.getfield 119, 3) := by decide +kernel
theorem d_SF_ran_47 : decode prog_1_method_10_code 47 = .ok (.iload_n 1, 1) := by decide +kernel
theorem d_SF_ran_48 : decode prog_1_method_10_code 48 = .ok (.bipush 100, 2) := by decide +kernel
theorem d_SF_ran_50 : decode prog_1_method_10_code 50 = .ok (.isub, 1) := by decide +kernel
theorem d_SF_ran_51 : decode prog_1_method_10_code 51 = .ok (.invokevirtual 109, 3) := by decide +kernel
theorem d_SF_ran_54 : decode prog_1_method_10_code 54 = .ok (.ireturn, 1) := by decide +kernel
theorem d_SF_ran_55 : decode prog_1_method_10_code 55 = .ok (.iload_n 1, 1) := by decide +kernel
theorem d_SF_ran_56 : decode prog_1_method_10_code 56 = .ok (.tableswitch 79 0 4 #[36, 47, 55, 63, 71], 36) := by decide +kernel
theorem d_SF_ran_92 : decode prog_1_method_10_code 92 = .ok (.aload_n 0, 1) := by decide +kernel
theorem d_SF_ran_93 : decode prog_1_method_10_code 93 = .ok (.getfield 32, 3) := by decide +kernel
theorem d_SF_ran_96 : decode prog_1_method_10_code 96 = .ok (.getfield 106, 3) := by decide +kernel
theorem d_SF_ran_99 : decode prog_1_method_10_code 99 = .ok (.getfield 79, 3) := by decide +kernel
theorem d_SF_ran_102 : decode prog_1_method_10_code 102 = .ok (.ireturn, 1) := by decide +kernel
theorem d_SF_ran_103 : decode prog_1_method_10_code 103 = .ok (.aload_n 0, 1) := by decide +kernel
theorem d_SF_ran_104 : decode prog_1_method_10_code 104 = .ok (.getfield 32, 3) := by decide +kernel
theorem d_SF_ran_107 : decode prog_1_method_10_code 107 = .ok (.getfield 122, 3) := by decide +kernel
theorem d_SF_ran_110 : decode prog_1_method_10_code 110 = .ok (.ireturn, 1) := by decide +kernel
theorem d_SF_ran_111 : decode prog_1_method_10_code 111 = .ok (.aload_n 0, 1) := by decide +kernel
theorem d_SF_ran_112 : decode prog_1_method_10_code 112 = .ok (.getfield 32, 3) := by decide +kernel
theorem d_SF_ran_115 : decode prog_1_method_10_code 115 = .ok (.getfield 125, 3) := by decide +kernel
theorem d_SF_ran_118 : decode prog_1_method_10_code 118 = .ok (.ireturn, 1) := by decide +kernel
theorem d_SF_ran_119 : decode prog_1_method_10_code 119 = .ok (.aload_n 0, 1) := by decide +kernel
theorem d_SF_ran_120 : decode prog_1_method_10_code 120 = .ok (.getfield 32, 3) := by decide +kernel
theorem d_SF_ran_123 : decode prog_1_method_10_code 123 = .ok (.getfield 128, 3) := by decide +kernel
theorem d_SF_ran_126 : decode prog_1_method_10_code 126 = .ok (.ireturn, 1) := by decide +kernel
theorem d_SF_ran_127 : decode prog_1_method_10_code 127 = .ok (.aload_n 0, 1) := by decide +kernel
theorem d_SF_ran_128 : decode prog_1_method_10_code 128 = .ok (.getfield 32, 3) := by decide +kernel
theorem d_SF_ran_131 : decode prog_1_method_10_code 131 = .ok (.getfield 131, 3) := by decide +kernel
theorem d_SF_ran_134 : decode prog_1_method_10_code 134 = .ok (.ireturn, 1) := by decide +kernel
theorem d_SF_ran_135 : decode prog_1_method_10_code 135 = .ok (.new 61, 3) := by decide +kernel
theorem d_SF_ran_138 : decode prog_1_method_10_code 138 = .ok (.dup, 1) := by decide +kernel
theorem d_SF_ran_139 : decode prog_1_method_10_code 139 = .ok (.invokespecial 63, 3) := by decide +kernel
theorem d_SF_ran_142 : decode prog_1_method_10_code 142 = .ok (.athrow, 1) := by decide +kernel
theorem d_SF_match_0 : decode prog_1_method_11_code 0 = .ok (.iload_n 3, 1) := by decide +kernel
theorem d_SF_match_1 : decode prog_1_method_11_code 1 = .ok (.ifCond .lt 9, 3) := by decide +kernel
theorem d_SF_match_4 : decode prog_1_method_11_code 4 = .ok (.iload_n 3, 1) := by decide +kernel
theorem d_SF_match_5 : decode prog_1_method_11_code 5 = .ok (.bipush 7, 2) := by decide +kernel
theorem d_SF_match_7 : decode prog_1_method_11_code 7 = .ok (.if_icmp .le 11, 3) := by decide +kernel
theorem d_SF_match_10 : decode prog_1_method_11_code 10 = .ok (.new 61, 3) := by decide +kernel
theorem d_SF_match_13 : decode prog_1_method_11_code 13 = .ok (.dup, 1) := by decide +kernel
theorem d_SF_match_14 : decode prog_1_method_11_code 14 = .ok (.invokespecial 63, 3) := by decide +kernel
theorem d_SF_match_17 : decode prog_1_method_11_code 17 = .ok (.athrow, 1) := by decide +kernel
theorem d_SF_match_18 : decode prog_1_method_11_code 18 = .ok (.aload_n 0, 1) := by decide +kernel
theorem d_SF_match_19 : decode prog_1_method_11_code 19 = .ok (.getfield 95, 3) := by decide +kernel
theorem d_SF_match_22 : decode prog_1_method_11_code 22 = .ok (.ifCond .ne 11, 3) := by decide +kernel
theorem d_SF_match_25 : decode prog_1_method_11_code 25 = .ok (.new 72, 3) := by decide +kernel
theorem d_SF_match_28 : decode prog_1_method_11_code 28 = .ok (.dup, 1) := by decide +kernel
theorem d_SF_match_29 : decode prog_1_method_11_code 29 = .ok (.invokespecial 74, 3) := by decide +kernel
theorem d_SF_match_32 : decode prog_1_method_11_code 32 = .ok (.athrow, 1) := by decide +kernel
theorem d_SF_match_33 : decode prog_1_method_11_code 33 = .ok (.iload_n 1, 1) := by decide +kernel
theorem d_SF_match_34 : decode prog_1_method_11_code 34 = .ok (.ifCond .lt 14, 3) := by decide +kernel
theorem d_SF_match_37 : decode prog_1_method_11_code 37 = .ok (.iload_n 1, 1) := by decide +kernel
theorem d_SF_match_38 : decode prog_1_method_11_code 38 = .ok (.aload_n 0, 1) := by decide +kernel
theorem d_SF_match_39 : decode prog_1_method_11_code 39 = .ok (.getfield 46, 3) := by decide +kernel
theorem d_SF_match_42 : decode prog_1_method_11_code 42 = .ok (.getfield 99, 3) := by decide +kernel
theorem d_SF_match_45 : decode prog_1_method_11_code 45 = .ok (.if_icmp .lt 11, 3) := by decide +kernel
theorem d_SF_match_48 : decode prog_1_method_11_code 48 = .ok (.new 113, 3) := by decide +kernel
theorem d_SF_match_51 : decode prog_1_method_11_code 51 = .ok (.dup, 1) := by decide +kernel
theorem d_SF_match_52 : decode prog_1_method_11_code 52 = .ok (.invokespecial 115, 3) := by decide +kernel
theorem d_SF_match_55 : decode prog_1_method_11_code 55 = .ok (.athrow, 1) := by decide +kernel
theorem d_SF_match_56 : decode prog_1_method_11_code 56 = .ok (.aload_n 0, 1) := by decide +kernel
theorem d_SF_match_57 : decode prog_1_method_11_code 57 = .ok (.getfield 46, 3) := by decide +kernel
theorem d_SF_match_60 : decode prog_1_method_11_code 60 = .ok (.getfield 134, 3) := by decide +kernel
theorem d_SF_match_63 : decode prog_1_method_11_code 63 = .ok (.iload_n 1, 1) := by decide +kernel
theorem d_SF_match_64 : decode prog_1_method_11_code 64 = .ok (.aaload, 1) := by decide +kernel
theorem d_SF_match_65 : decode prog_1_method_11_code 65 = .ok (.astore 4, 2) := by decide +kernel
theorem d_SF_match_67 : decode prog_1_method_11_code 67 = .ok (.aload 4, 2) := by decide +kernel
theorem d_SF_match_69 : decode prog_1_method_11_code 69 = .ok (.getfield 138, 3) := by decide +kernel
theorem d_SF_match_72 : decode prog_1_method_11_code 72 = .ok (.bipush 115, 2) := by decide +kernel
theorem d_SF_match_74 : decode prog_1_method_11_code 74 = .ok (.if_icmp .eq 11, 3) := by decide +kernel
theorem d_SF_match_77 : decode prog_1_method_11_code 77 = .ok (.new 61, 3) := by decide +kernel
theorem d_SF_match_80 : decode prog_1_method_11_code 80 = .ok (.dup, 1) := by decide +kernel
theorem d_SF_match_81 : decode prog_1_method_11_code 81 = .ok (.invokespecial 63, 3) := by decide +kernel
theorem d_SF_match_84 : decode prog_1_method_11_code 84 = .ok (.athrow, 1) := by decide +kernel
theorem d_SF_match_85 : decode prog_1_method_11_code 85 = .ok (.iload_n 2, 1) := by decide +kernel
theorem d_SF_match_86 : decode prog_1_method_11_code 86 = .ok (.ifCond .lt 11, 3) := by decide +kernel
theorem d_SF_match_89 : decode prog_1_method_11_code 89 = .ok (.iload_n 2, 1) := by decide +kernel
theorem d_SF_match_90 : decode prog_1_method_11_code 90 = .ok (.aload_n 0, 1) := by decide +kernel
theorem d_SF_match_91 : decode prog_1_method_11_code 91 = .ok (.getfield 85, 3) := by decide +kernel
theorem d_SF_match_94 : decode prog_1_method_11_code 94 = .ok (.if_icmp .lt 11, 3) := by decide +kernel
theorem d_SF_match_97 : decode prog_1_method_11_code 97 = .ok (.new 113, 3) := by decide +kernel
theorem d_SF_match_100 : decode prog_1_method_11_code 100 = .ok (.dup, 1) := by decide +kernel
theorem d_SF_match_101 : decode prog_1_method_11_code 101 = .ok (.invokespecial 115, 3) := by decide +kernel
theorem d_SF_match_104 : decode prog_1_method_11_code 104 = .ok (.athrow, 1) := by decide +kernel
theorem d_SF_match_105 : decode prog_1_method_11_code 105 = .ok (.aload_n 0, 1) := by decide +kernel
theorem d_SF_match_106 : decode prog_1_method_11_code 106 = .ok (.getfield 39, 3) := by decide +kernel
theorem d_SF_match_109 : decode prog_1_method_11_code 109 = .ok (.aload_n 0, 1) := by decide +kernel
theorem d_SF_match_110 : decode prog_1_method_11_code 110 = .ok (.getfield 46, 3) := by decide +kernel
theorem d_SF_match_113 : decode prog_1_method_11_code 113 = .ok (.getfield 143, 3) := by decide +kernel
theorem d_SF_match_116 : decode prog_1_method_11_code 116 = .ok (.aload 4, 2) := by decide +kernel
theorem d_SF_match_118 : decode prog_1_method_11_code 118 = .ok (.getfield 147, 3) := by decide +kernel
theorem d_SF_match_121 : decode prog_1_method_11_code 121 = .ok (.aload_n 0, 1) := by decide +kernel
theorem d_SF_match_122 : decode prog_1_method_11_code 122 = .ok (.getfield 18, 3) := by decide +kernel
theorem d_SF_match_125 : decode prog_1_method_11_code 125 = .ok (.iload_n 2, 1) := by decide +kernel
theorem d_SF_match_126 : decode prog_1_method_11_code 126 = .ok (.aaload, 1) := by decide +kernel
theorem d_SF_match_127 : decode prog_1_method_11_code 127 = .ok (.iconst 0, 1) := by decide +kernel
theorem d_SF_match_128 : decode prog_1_method_11_code 128 = .ok (.invokevirtual 151, 3) := by decide +kernel
theorem d_SF_match_131 : decode prog_1_method_11_code 131 = .ok (.ifCond .ne 6, 3) := by decide +kernel
theorem d_SF_match_134 : decode prog_1_method_11_code 134 = .ok (.bipush (-2), 2) := by decide +kernel
theorem d_SF_match_136 : decode prog_1_method_11_code 136 = .ok (.ireturn, 1) := by decide +kernel
theorem d_SF_match_137 : decode prog_1_method_11_code 137 = .ok (.aload_n 0, 1) := by decide +kernel
theorem d_SF_match_138 : decode prog_1_method_11_code 138 = .ok (.getfield 39, 3) := by decide +kernel
theorem d_SF_match_141 : decode prog_1_method_11_code 141 = .ok (.iload_n 3, 1) := by decide +kernel
theorem d_SF_match_142 : decode prog_1_method_11_code 142 = .ok (.invokevirtual 155, 3) := by decide +kernel
theorem d_SF_match_145 : decode prog_1_method_11_code 145 = .ok (.ireturn, 1) := by decide +kernel
theorem d_SF_count_0 : decode prog_1_method_12_code 0 = .ok (.iload_n 1, 1) := by decide +kernel
theorem d_SF_count_1 : decode prog_1_method_12_code 1 = .ok (.bipush 10, 2) := by decide +kernel
theorem d_SF_count_3 : decode prog_1_method_12_code 3 = .ok (.if_icmp .lt 30, 3) := by decide +kernel
theorem d_SF_count_6 : decode prog_1_method_12_code 6 = .ok (.iload_n 1, 1) := by decide +kernel
theorem d_SF_count_7 : decode prog_1_method_12_code 7 = .ok (.bipush 10, 2) := by decide +kernel
theorem d_SF_count_9 : decode prog_1_method_12_code 9 = .ok (.isub, 1) := by decide +kernel
theorem d_SF_count_10 : decode prog_1_method_12_code 10 = .ok (.istore_n 2, 1) := by decide +kernel
theorem d_SF_count_11 : decode prog_1_method_12_code 11 = .ok (.iload_n 2, 1) := by decide +kernel
theorem d_SF_count_12 : decode prog_1_method_12_code 12 = .ok (.aload_n 0, 1) := by decide +kernel
theorem d_SF_count_13 : decode prog_1_method_12_code 13 = .ok (.getfield 85, 3) := by decide +kernel
theorem d_SF_count_16 : decode prog_1_method_12_code 16 = .ok (.if_icmp .ge 15, 3) := by decide +kernel
theorem d_SF_count_19 : decode prog_1_method_12_code 19 = .ok (.aload_n 0, 1) := by decide +kernel
theorem d_SF_count_20 : decode prog_1_method_12_code 20 = .ok (.getfield 18, 3) := by decide +kernel
theorem d_SF_count_23 : decode prog_1_method_12_code 23 = .ok (.iload_n 2, 1) := by decide +kernel
theorem d_SF_count_24 : decode prog_1_method_12_code 24 = .ok (.aaload, 1) := by decide +kernel
theorem d_SF_count_25 : decode prog_1_method_12_code 25 = .ok (.getfield 79, 3) := by decide +kernel
theorem d_SF_count_28 : decode prog_1_method_12_code 28 = .ok (.goto 4, 3) := by decide +kernel
theorem d_SF_count_31 : decode prog_1_method_12_code 31 = .ok (.iconst 0, 1) := by decide +kernel
theorem d_SF_count_32 : decode prog_1_method_12_code 32 = .ok (.ireturn, 1) := by decide +kernel
theorem d_SF_count_33 : decode prog_1_method_12_code 33 = .ok (.iload_n 1, 1) := by decide +kernel
theorem d_SF_count_34 : decode prog_1_method_12_code 34 = .ok (.tableswitch 47 0 2 #[26, 34, 39], 26) := by decide +kernel
theorem d_SF_count_60 : decode prog_1_method_12_code 60 = .ok (.aload_n 0, 1) := by decide +kernel
theorem d_SF_count_61 : decode prog_1_method_12_code 61 = .ok (.getfield 14, 3) := by decide +kernel
theorem d_SF_count_64 : decode prog_1_method_12_code 64 = .ok (.getfield 79, 3) := by decide +kernel
theorem d_SF_count_67 : decode prog_1_method_12_code 67 = .ok (.ireturn, 1) := by decide +kernel
theorem d_SF_count_68 : decode prog_1_method_12_code 68 = .ok (.aload_n 0, 1) := by decide +kernel
theorem d_SF_count_69 : decode prog_1_method_12_code 69 = .ok (.getfield 85, 3) := by decide +kernel
theorem d_SF_count_72 : decode prog_1_method_12_code 72 = .ok (.ireturn, 1) := by decide +kernel
theorem d_SF_count_73 : decode prog_1_method_12_code 73 = .ok (.aload_n 0, 1) := by decide +kernel
theorem d_SF_count_74 : decode prog_1_method_12_code 74 = .ok (.getfield 46, 3) := by decide +kernel
theorem d_SF_count_77 : decode prog_1_method_12_code 77 = .ok (.getfield 99, 3) := by decide +kernel
theorem d_SF_count_80 : decode prog_1_method_12_code 80 = .ok (.ireturn, 1) := by decide +kernel
theorem d_SF_count_81 : decode prog_1_method_12_code 81 = .ok (.new 61, 3) := by decide +kernel
theorem d_SF_count_84 : decode prog_1_method_12_code 84 = .ok (.dup, 1) := by decide +kernel
theorem d_SF_count_85 : decode prog_1_method_12_code 85 = .ok (.invokespecial 63, 3) := by decide +kernel
theorem d_SF_count_88 : decode prog_1_method_12_code 88 = .ok (.athrow, 1) := by decide +kernel
