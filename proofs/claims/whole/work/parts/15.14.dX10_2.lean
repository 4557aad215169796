theorem dX10_read_145 : decode cX10_read 145 = .ok (.getfield 184, 3) := by decide +kernel
theorem dX10_read_148 : decode cX10_read 148 = .ok (.ireturn, 1) := by decide +kernel
theorem dX10_pairs_0 : decode cX10_pairs 0 = .ok (.iconst 0, 1) := by decide +kernel
theorem dX10_pairs_1 : decode cX10_pairs 1 = .ok (.istore_n 1, 1) := by decide +kernel
theorem dX10_pairs_2 : decode cX10_pairs 2 = .ok (.iconst 0, 1) := by decide +kernel
theorem dX10_pairs_3 : decode cX10_pairs 3 = .ok (.istore_n 2, 1) := by decide +kernel
theorem dX10_pairs_4 : decode cX10_pairs 4 = .ok (.aload_n 0, 1) := by decide +kernel
theorem dX10_pairs_5 : decode cX10_pairs 5 = .ok (.getfield 37, 3) := by decide +kernel
theorem dX10_pairs_8 : decode cX10_pairs 8 = .ok (.iconst 0, 1) := by decide +kernel
theorem dX10_pairs_9 : decode cX10_pairs 9 = .ok (.iconst 0, 1) := by decide +kernel
theorem dX10_pairs_10 : decode cX10_pairs 10 = .ok (.bastore, 1) := by decide +kernel
theorem dX10_pairs_11 : decode cX10_pairs 11 = .ok (.iconst 0, 1) := by decide +kernel
theorem dX10_pairs_12 : decode cX10_pairs 12 = .ok (.istore_n 3, 1) := by decide +kernel
theorem dX10_pairs_13 : decode cX10_pairs 13 = .ok (.iload_n 3, 1) := by decide +kernel
theorem dX10_pairs_14 : decode cX10_pairs 14 = .ok (.aload_n 0, 1) := by decide +kernel
theorem dX10_pairs_15 : decode cX10_pairs 15 = .ok (.getfield 184, 3) := by decide +kernel
theorem dX10_pairs_18 : decode cX10_pairs 18 = .ok (.if_icmp .ge 143, 3) := by decide +kernel
theorem dX10_pairs_21 : decode cX10_pairs 21 = .ok (.aload_n 0, 1) := by decide +kernel
theorem dX10_pairs_22 : decode cX10_pairs 22 = .ok (.getfield 24, 3) := by decide +kernel
theorem dX10_pairs_25 : decode cX10_pairs 25 = .ok (.iload_n 3, 1) := by decide +kernel
theorem dX10_pairs_26 : decode cX10_pairs 26 = .ok (.iaload, 1) := by decide +kernel
theorem dX10_pairs_27 : decode cX10_pairs 27 = .ok (.sipush 256, 3) := by decide +kernel
theorem dX10_pairs_30 : decode cX10_pairs 30 = .ok (.if_icmp .ne 20, 3) := by decide +kernel
theorem dX10_pairs_33 : decode cX10_pairs 33 = .ok (.aload_n 0, 1) := by decide +kernel
theorem dX10_pairs_34 : decode cX10_pairs 34 = .ok (.getfield 30, 3) := by decide +kernel
theorem dX10_pairs_37 : decode cX10_pairs 37 = .ok (.iload_n 3, 1) := by decide +kernel
theorem dX10_pairs_38 : decode cX10_pairs 38 = .ok (.aload_n 0, 1) := by decide +kernel
theorem dX10_pairs_39 : decode cX10_pairs 39 = .ok (.getfield 37, 3) := by decide +kernel
theorem dX10_pairs_42 : decode cX10_pairs 42 = .ok (.iload_n 1, 1) := by decide +kernel
theorem dX10_pairs_43 : decode cX10_pairs 43 = .ok (.baload, 1) := by decide +kernel
theorem dX10_pairs_44 : decode cX10_pairs 44 = .ok (.bastore, 1) := by decide +kernel
theorem dX10_pairs_45 : decode cX10_pairs 45 = .ok (.iconst 1, 1) := by decide +kernel
theorem dX10_pairs_46 : decode cX10_pairs 46 = .ok (.istore_n 2, 1) := by decide +kernel
theorem dX10_pairs_47 : decode cX10_pairs 47 = .ok (.goto 108, 3) := by decide +kernel
theorem dX10_pairs_50 : decode cX10_pairs 50 = .ok (.aload_n 0, 1) := by decide +kernel
theorem dX10_pairs_51 : decode cX10_pairs 51 = .ok (.getfield 24, 3) := by decide +kernel
theorem dX10_pairs_54 : decode cX10_pairs 54 = .ok (.iload_n 3, 1) := by decide +kernel
theorem dX10_pairs_55 : decode cX10_pairs 55 = .ok (.iaload, 1) := by decide +kernel
theorem dX10_pairs_56 : decode cX10_pairs 56 = .ok (.sipush 257, 3) := by decide +kernel
theorem dX10_pairs_59 : decode cX10_pairs 59 = .ok (.if_icmp .eq 15, 3) := by decide +kernel
theorem dX10_pairs_62 : decode cX10_pairs 62 = .ok (.aload_n 0, 1) := by decide +kernel
theorem dX10_pairs_63 : decode cX10_pairs 63 = .ok (.getfield 24, 3) := by decide +kernel
theorem dX10_pairs_66 : decode cX10_pairs 66 = .ok (.iload_n 3, 1) := by decide +kernel
theorem dX10_pairs_67 : decode cX10_pairs 67 = .ok (.iaload, 1) := by decide +kernel
theorem dX10_pairs_68 : decode cX10_pairs 68 = .ok (.sipush 258, 3) := by decide +kernel
theorem dX10_pairs_71 : decode cX10_pairs 71 = .ok (.if_icmp .ne 8, 3) := by decide +kernel
theorem dX10_pairs_74 : decode cX10_pairs 74 = .ok (.iconst 0, 1) := by decide +kernel
theorem dX10_pairs_75 : decode cX10_pairs 75 = .ok (.istore_n 2, 1) := by decide +kernel
theorem dX10_pairs_76 : decode cX10_pairs 76 = .ok (.goto 79, 3) := by decide +kernel
theorem dX10_pairs_79 : decode cX10_pairs 79 = .ok (.aload_n 0, 1) := by decide +kernel
theorem dX10_pairs_80 : decode cX10_pairs 80 = .ok (.getfield 24, 3) := by decide +kernel
theorem dX10_pairs_83 : decode cX10_pairs 83 = .ok (.iload_n 3, 1) := by decide +kernel
theorem dX10_pairs_84 : decode cX10_pairs 84 = .ok (.iaload, 1) := by decide +kernel
theorem dX10_pairs_85 : decode cX10_pairs 85 = .ok (.bipush 123, 2) := by decide +kernel
theorem dX10_pairs_87 : decode cX10_pairs 87 = .ok (.if_icmp .ne 42, 3) := by decide +kernel
theorem dX10_pairs_90 : decode cX10_pairs 90 = .ok (.aload_n 0, 1) := by decide +kernel
theorem dX10_pairs_91 : decode cX10_pairs 91 = .ok (.getfield 34, 3) := by decide +kernel
theorem dX10_pairs_94 : decode cX10_pairs 94 = .ok (.iload_n 1, 1) := by decide +kernel
theorem dX10_pairs_95 : decode cX10_pairs 95 = .ok (.iload_n 3, 1) := by decide +kernel
theorem dX10_pairs_96 : decode cX10_pairs 96 = .ok (.iastore, 1) := by decide +kernel
theorem dX10_pairs_97 : decode cX10_pairs 97 = .ok (.iinc 1 1, 3) := by decide +kernel
theorem dX10_pairs_100 : decode cX10_pairs 100 = .ok (.aload_n 0, 1) := by decide +kernel
theorem dX10_pairs_101 : decode cX10_pairs 101 = .ok (.getfield 37, 3) := by decide +kernel
theorem dX10_pairs_104 : decode cX10_pairs 104 = .ok (.iload_n 1, 1) := by decide +kernel
theorem dX10_pairs_105 : decode cX10_pairs 105 = .ok (.aload_n 0, 1) := by decide +kernel
theorem dX10_pairs_106 : decode cX10_pairs 106 = .ok (.getfield 37, 3) := by decide +kernel
theorem dX10_pairs_109 : decode cX10_pairs 109 = .ok (.iload_n 1, 1) := by decide +kernel
theorem dX10_pairs_110 : decode cX10_pairs 110 = .ok (.iconst 1, 1) := by decide +kernel
theorem dX10_pairs_111 : decode cX10_pairs 111 = .ok (.isub, 1) := by decide +kernel
theorem dX10_pairs_112 : decode cX10_pairs 112 = .ok (.baload, 1) := by decide +kernel
theorem dX10_pairs_113 : decode cX10_pairs 113 = .ok (.ifCond .ne 7, 3) := by decide +kernel
theorem dX10_pairs_116 : decode cX10_pairs 116 = .ok (.iload_n 2, 1) := by decide +kernel
theorem dX10_pairs_117 : decode cX10_pairs 117 = .ok (.ifCond .eq 7, 3) := by decide +kernel
theorem dX10_pairs_120 : decode cX10_pairs 120 = .ok (.iconst 1, 1) := by decide +kernel
theorem dX10_pairs_121 : decode cX10_pairs 121 = .ok (.goto 4, 3) := by decide +kernel
theorem dX10_pairs_124 : decode cX10_pairs 124 = .ok (.iconst 0, 1) := by decide +kernel
theorem dX10_pairs_125 : decode cX10_pairs 125 = .ok (.bastore, 1) := by decide +kernel
theorem dX10_pairs_126 : decode cX10_pairs 126 = .ok (.goto 29, 3) := by decide +kernel
theorem dX10_pairs_129 : decode cX10_pairs 129 = .ok (.aload_n 0, 1) := by decide +kernel
theorem dX10_pairs_130 : decode cX10_pairs 130 = .ok (.getfield 24, 3) := by decide +kernel
theorem dX10_pairs_133 : decode cX10_pairs 133 = .ok (.iload_n 3, 1) := by decide +kernel
theorem dX10_pairs_134 : decode cX10_pairs 134 = .ok (.iaload, 1) := by decide +kernel
theorem dX10_pairs_135 : decode cX10_pairs 135 = .ok (.bipush 125, 2) := by decide +kernel
theorem dX10_pairs_137 : decode cX10_pairs 137 = .ok (.if_icmp .ne 18, 3) := by decide +kernel
theorem dX10_pairs_140 : decode cX10_pairs 140 = .ok (.iinc 1 (-1), 3) := by decide +kernel
theorem dX10_pairs_143 : decode cX10_pairs 143 = .ok (.aload_n 0, 1) := by decide +kernel
theorem dX10_pairs_144 : decode cX10_pairs 144 = .ok (.getfield 27, 3) := by decide +kernel
theorem dX10_pairs_147 : decode cX10_pairs 147 = .ok (.aload_n 0, 1) := by decide +kernel
theorem dX10_pairs_148 : decode cX10_pairs 148 = .ok (.getfield 34, 3) := by decide +kernel
theorem dX10_pairs_151 : decode cX10_pairs 151 = .ok (.iload_n 1, 1) := by decide +kernel
theorem dX10_pairs_152 : decode cX10_pairs 152 = .ok (.iaload, 1) := by decide +kernel
theorem dX10_pairs_153 : decode cX10_pairs 153 = .ok (.iload_n 3, 1) := by decide +kernel
theorem dX10_pairs_154 : decode cX10_pairs 154 = .ok (.iastore, 1) := by decide +kernel
theorem dX10_pairs_155 : decode cX10_pairs 155 = .ok (.iinc 3 1, 3) := by decide +kernel
theorem dX10_pairs_158 : decode cX10_pairs 158 = .ok (.goto (-145), 3) := by decide +kernel
theorem dX10_pairs_161 : decode cX10_pairs 161 = .ok (.return_, 1) := by decide +kernel
theorem dX10_fault_0 : decode cX10_fault 0 = .ok (.aload_n 0, 1) := by decide +kernel
theorem dX10_fault_1 : decode cX10_fault 1 = .ok (.iconst 0, 1) := by decide +kernel
theorem dX10_fault_2 : decode cX10_fault 2 = .ok (.putfield 79, 3) := by decide +kernel
theorem dX10_fault_5 : decode cX10_fault 5 = .ok (.aload_n 0, 1) := by decide +kernel
theorem dX10_fault_6 : decode cX10_fault 6 = .ok (.getfield 13, 3) := by decide +kernel
theorem dX10_fault_9 : decode cX10_fault 9 = .ok (.ireturn, 1) := by decide +kernel
theorem dX10_token_0 : decode cX10_token 0 = .ok (.aload_n 0, 1) := by decide +kernel
theorem dX10_token_1 : decode cX10_token 1 = .ok (.iconst 0, 1) := by decide +kernel
theorem dX10_token_2 : decode cX10_token 2 = .ok (.putfield 79, 3) := by decide +kernel
theorem dX10_token_5 : decode cX10_token 5 = .ok (.iload_n 1, 1) := by decide +kernel
theorem dX10_token_6 : decode cX10_token 6 = .ok (.iconst 0, 1) := by decide +kernel
theorem dX10_token_7 : decode cX10_token 7 = .ok (.aload_n 0, 1) := by decide +kernel
theorem dX10_token_8 : decode cX10_token 8 = .ok (.getfield 184, 3) := by decide +kernel
theorem dX10_token_11 : decode cX10_token 11 = .ok (.iconst 1, 1) := by decide +kernel
theorem dX10_token_12 : decode cX10_token 12 = .ok (.isub, 1) := by decide +kernel
theorem dX10_token_13 : decode cX10_token 13 = .ok (.invokestatic 104, 3) := by decide +kernel
theorem dX10_token_16 : decode cX10_token 16 = .ok (.ifCond .eq 12, 3) := by decide +kernel
theorem dX10_token_19 : decode cX10_token 19 = .ok (.aload_n 0, 1) := by decide +kernel
theorem dX10_token_20 : decode cX10_token 20 = .ok (.getfield 24, 3) := by decide +kernel
theorem dX10_token_23 : decode cX10_token 23 = .ok (.iload_n 1, 1) := by decide +kernel
theorem dX10_token_24 : decode cX10_token 24 = .ok (.iaload, 1) := by decide +kernel
theorem dX10_token_25 : decode cX10_token 25 = .ok (.goto 4, 3) := by decide +kernel
theorem dX10_token_28 : decode cX10_token 28 = .ok (.iconst (-1), 1) := by decide +kernel
theorem dX10_token_29 : decode cX10_token 29 = .ok (.ireturn, 1) := by decide +kernel
theorem dX10_ends_0 : decode cX10_ends 0 = .ok (.aload_n 0, 1) := by decide +kernel
theorem dX10_ends_1 : decode cX10_ends 1 = .ok (.iconst 1, 1) := by decide +kernel
theorem dX10_ends_2 : decode cX10_ends 2 = .ok (.putfield 193, 3) := by decide +kernel
theorem dX10_ends_5 : decode cX10_ends 5 = .ok (.aload_n 0, 1) := by decide +kernel
theorem dX10_ends_6 : decode cX10_ends 6 = .ok (.iload_n 1, 1) := by decide +kernel
theorem dX10_ends_7 : decode cX10_ends 7 = .ok (.putfield 197, 3) := by decide +kernel
theorem dX10_ends_10 : decode cX10_ends 10 = .ok (.return_, 1) := by decide +kernel
theorem dX10_burns_0 : decode cX10_burns 0 = .ok (.aload_n 0, 1) := by decide +kernel
theorem dX10_burns_1 : decode cX10_burns 1 = .ok (.getfield 200, 3) := by decide +kernel
theorem dX10_burns_4 : decode cX10_burns 4 = .ok (.sipush 1000, 3) := by decide +kernel
theorem dX10_burns_7 : decode cX10_burns 7 = .ok (.if_icmp .ne 10, 3) := by decide +kernel
theorem dX10_burns_10 : decode cX10_burns 10 = .ok (.aload_n 0, 1) := by decide +kernel
theorem dX10_burns_11 : decode cX10_burns 11 = .ok (.iconst 2, 1) := by decide +kernel
theorem dX10_burns_12 : decode cX10_burns 12 = .ok (.invokevirtual 203, 3) := by decide +kernel
theorem dX10_burns_15 : decode cX10_burns 15 = .ok (.iconst 0, 1) := by decide +kernel
theorem dX10_burns_16 : decode cX10_burns 16 = .ok (.ireturn, 1) := by decide +kernel
theorem dX10_burns_17 : decode cX10_burns 17 = .ok (.aload_n 0, 1) := by decide +kernel
theorem dX10_burns_18 : decode cX10_burns 18 = .ok (.dup, 1) := by decide +kernel
theorem dX10_burns_19 : decode cX10_burns 19 = .ok (.getfield 200, 3) := by decide +kernel
theorem dX10_burns_22 : decode cX10_burns 22 = .ok (.iconst 1, 1) := by decide +kernel
theorem dX10_burns_23 : decode cX10_burns 23 = .ok (.iadd, 1) := by decide +kernel
theorem dX10_burns_24 : decode cX10_burns 24 = .ok (.putfield 200, 3) := by decide +kernel
theorem dX10_burns_27 : decode cX10_burns 27 = .ok (.iconst 1, 1) := by decide +kernel
theorem dX10_burns_28 : decode cX10_burns 28 = .ok (.ireturn, 1) := by decide +kernel
theorem dX10_factor_0 : decode cX10_factor 0 = .ok (.aload_n 0, 1) := by decide +kernel
theorem dX10_factor_1 : decode cX10_factor 1 = .ok (.getfield 24, 3) := by decide +kernel
theorem dX10_factor_4 : decode cX10_factor 4 = .ok (.aload_n 0, 1) := by decide +kernel
theorem dX10_factor_5 : decode cX10_factor 5 = .ok (.getfield 207, 3) := by decide +kernel
theorem dX10_factor_8 : decode cX10_factor 8 = .ok (.iaload, 1) := by decide +kernel
theorem dX10_factor_9 : decode cX10_factor 9 = .ok (.istore_n 1, 1) := by decide +kernel
theorem dX10_factor_10 : decode cX10_factor 10 = .ok (.aload_n 0, 1) := by decide +kernel
theorem dX10_factor_11 : decode cX10_factor 11 = .ok (.dup, 1) := by decide +kernel
theorem dX10_factor_12 : decode cX10_factor 12 = .ok (.getfield 207, 3) := by decide +kernel
theorem dX10_factor_15 : decode cX10_factor 15 = .ok (.iconst 1, 1) := by decide +kernel
theorem dX10_factor_16 : decode cX10_factor 16 = .ok (.iadd, 1) := by decide +kernel
theorem dX10_factor_17 : decode cX10_factor 17 = .ok (.putfield 207, 3) := by decide +kernel
theorem dX10_factor_20 : decode cX10_factor 20 = .ok (.iload_n 1, 1) := by decide +kernel
theorem dX10_factor_21 : decode cX10_factor 21 = .ok (.sipush 1000, 3) := by decide +kernel
theorem dX10_factor_24 : decode cX10_factor 24 = .ok (.if_icmp .lt 9, 3) := by decide +kernel
theorem dX10_factor_27 : decode cX10_factor 27 = .ok (.iload_n 1, 1) := by decide +kernel
theorem dX10_factor_28 : decode cX10_factor 28 = .ok (.sipush 1000, 3) := by decide +kernel
theorem dX10_factor_31 : decode cX10_factor 31 = .ok (.isub, 1) := by decide +kernel
theorem dX10_factor_32 : decode cX10_factor 32 = .ok (.ireturn, 1) := by decide +kernel
theorem dX10_factor_33 : decode cX10_factor 33 = .ok (.iload_n 1, 1) := by decide +kernel
theorem dX10_factor_34 : decode cX10_factor 34 = .ok (.bipush 40, 2) := by decide +kernel
theorem dX10_factor_36 : decode cX10_factor 36 = .ok (.if_icmp .eq 10, 3) := by decide +kernel
theorem dX10_factor_39 : decode cX10_factor 39 = .ok (.aload_n 0, 1) := by decide +kernel
theorem dX10_factor_40 : decode cX10_factor 40 = .ok (.getfield 40, 3) := by decide +kernel
theorem dX10_factor_43 : decode cX10_factor 43 = .ok (.iload_n 1, 1) := by decide +kernel
theorem dX10_factor_44 : decode cX10_factor 44 = .ok (.iaload, 1) := by decide +kernel
theorem dX10_factor_45 : decode cX10_factor 45 = .ok (.ireturn, 1) := by decide +kernel
theorem dX10_factor_46 : decode cX10_factor 46 = .ok (.aload_n 0, 1) := by decide +kernel
theorem dX10_factor_47 : decode cX10_factor 47 = .ok (.invokevirtual 210, 3) := by decide +kernel
theorem dX10_factor_50 : decode cX10_factor 50 = .ok (.istore_n 2, 1) := by decide +kernel
theorem dX10_factor_51 : decode cX10_factor 51 = .ok (.aload_n 0, 1) := by decide +kernel
theorem dX10_factor_52 : decode cX10_factor 52 = .ok (.dup, 1) := by decide +kernel
theorem dX10_factor_53 : decode cX10_factor 53 = .ok (.getfield 207, 3) := by decide +kernel
theorem dX10_factor_56 : decode cX10_factor 56 = .ok (.iconst 1, 1) := by decide +kernel
theorem dX10_factor_57 : decode cX10_factor 57 = .ok (.iadd, 1) := by decide +kernel
theorem dX10_factor_58 : decode cX10_factor 58 = .ok (.putfield 207, 3) := by decide +kernel
theorem dX10_factor_61 : decode cX10_factor 61 = .ok (.iload_n 2, 1) := by decide +kernel
theorem dX10_factor_62 : decode cX10_factor 62 = .ok (.ireturn, 1) := by decide +kernel
theorem dX10_term_0 : decode cX10_term 0 = .ok (.aload_n 0, 1) := by decide +kernel
theorem dX10_term_1 : decode cX10_term 1 = .ok (.invokevirtual 213, 3) := by decide +kernel
theorem dX10_term_4 : decode cX10_term 4 = .ok (.istore_n 1, 1) := by decide +kernel
theorem dX10_term_5 : decode cX10_term 5 = .ok (.aload_n 0, 1) := by decide +kernel
theorem dX10_term_6 : decode cX10_term 6 = .ok (.getfield 193, 3) := by decide +kernel
theorem dX10_term_9 : decode cX10_term 9 = .ok (.ifCond .ne 159, 3) := by decide +kernel
theorem dX10_term_12 : decode cX10_term 12 = .ok (.aload_n 0, 1) := by decide +kernel
theorem dX10_term_13 : decode cX10_term 13 = .ok (.getfield 207, 3) := by decide +kernel
theorem dX10_term_16 : decode cX10_term 16 = .ok (.aload_n 0, 1) := by decide +kernel
theorem dX10_term_17 : decode cX10_term 17 = .ok (.getfield 184, 3) := by decide +kernel
theorem dX10_term_20 : decode cX10_term 20 = .ok (.if_icmp .ge 148, 3) := by decide +kernel
theorem dX10_term_23 : decode cX10_term 23 = .ok (.aload_n 0, 1) := by decide +kernel
theorem dX10_term_24 : decode cX10_term 24 = .ok (.getfield 24, 3) := by decide +kernel
theorem dX10_term_27 : decode cX10_term 27 = .ok (.aload_n 0, 1) := by decide +kernel
theorem dX10_term_28 : decode cX10_term 28 = .ok (.getfield 207, 3) := by decide +kernel
theorem dX10_term_31 : decode cX10_term 31 = .ok (.iaload, 1) := by decide +kernel
theorem dX10_term_32 : decode cX10_term 32 = .ok (.bipush 42, 2) := by decide +kernel
theorem dX10_term_34 : decode cX10_term 34 = .ok (.if_icmp .eq 31, 3) := by decide +kernel
theorem dX10_term_37 : decode cX10_term 37 = .ok (.aload_n 0, 1) := by decide +kernel
theorem dX10_term_38 : decode cX10_term 38 = .ok (.getfield 24, 3) := by decide +kernel
theorem dX10_term_41 : decode cX10_term 41 = .ok (.aload_n 0, 1) := by decide +kernel
theorem dX10_term_42 : decode cX10_term 42 = .ok (.getfield 207, 3) := by decide +kernel
theorem dX10_term_45 : decode cX10_term 45 = .ok (.iaload, 1) := by decide +kernel
theorem dX10_term_46 : decode cX10_term 46 = .ok (.bipush 47, 2) := by decide +kernel
theorem dX10_term_48 : decode cX10_term 48 = .ok (.if_icmp .eq 17, 3) := by decide +kernel
theorem dX10_term_51 : decode cX10_term 51 = .ok (.aload_n 0, 1) := by decide +kernel
theorem dX10_term_52 : decode cX10_term 52 = .ok (.getfield 24, 3) := by decide +kernel
theorem dX10_term_55 : decode cX10_term 55 = .ok (.aload_n 0, 1) := by decide +kernel
theorem dX10_term_56 : decode cX10_term 56 = .ok (.getfield 207, 3) := by decide +kernel
theorem dX10_term_59 : decode cX10_term 59 = .ok (.iaload, 1) := by decide +kernel
theorem dX10_term_60 : decode cX10_term 60 = .ok (.bipush 37, 2) := by decide +kernel
theorem dX10_term_62 : decode cX10_term 62 = .ok (.if_icmp .ne 106, 3) := by decide +kernel
theorem dX10_term_65 : decode cX10_term 65 = .ok (.aload_n 0, 1) := by decide +kernel
theorem dX10_term_66 : decode cX10_term 66 = .ok (.getfield 24, 3) := by decide +kernel
theorem dX10_term_69 : decode cX10_term 69 = .ok (.aload_n 0, 1) := by decide +kernel
theorem dX10_term_70 : decode cX10_term 70 = .ok (.getfield 207, 3) := by decide +kernel
theorem dX10_term_73 : decode cX10_term 73 = .ok (.iaload, 1) := by decide +kernel
theorem dX10_term_74 : decode cX10_term 74 = .ok (.istore_n 2, 1) := by decide +kernel
theorem dX10_term_75 : decode cX10_term 75 = .ok (.aload_n 0, 1) := by decide +kernel
theorem dX10_term_76 : decode cX10_term 76 = .ok (.dup, 1) := by decide +kernel
theorem dX10_term_77 : decode cX10_term 77 = .ok (.getfield 207, 3) := by decide +kernel
theorem dX10_term_80 : decode cX10_term 80 = .ok (.iconst 1, 1) := by decide +kernel
theorem dX10_term_81 : decode cX10_term 81 = .ok (.iadd, 1) := by decide +kernel
theorem dX10_term_82 : decode cX10_term 82 = .ok (.putfield 207, 3) := by decide +kernel
theorem dX10_term_85 : decode cX10_term 85 = .ok (.aload_n 0, 1) := by decide +kernel
theorem dX10_term_86 : decode cX10_term 86 = .ok (.invokevirtual 213, 3) := by decide +kernel
theorem dX10_term_89 : decode cX10_term 89 = .ok (.istore_n 3, 1) := by decide +kernel
theorem dX10_term_90 : decode cX10_term 90 = .ok (.aload_n 0, 1) := by decide +kernel
theorem dX10_term_91 : decode cX10_term 91 = .ok (.getfield 193, 3) := by decide +kernel
theorem dX10_term_94 : decode cX10_term 94 = .ok (.ifCond .eq 5, 3) := by decide +kernel
theorem dX10_term_97 : decode cX10_term 97 = .ok (.iconst 0, 1) := by decide +kernel
theorem dX10_term_98 : decode cX10_term 98 = .ok (.ireturn, 1) := by decide +kernel
theorem dX10_term_99 : decode cX10_term 99 = .ok (.aload_n 0, 1) := by decide +kernel
theorem dX10_term_100 : decode cX10_term 100 = .ok (.dup, 1) := by decide +kernel
theorem dX10_term_101 : decode cX10_term 101 = .ok (.getfield 216, 3) := by decide +kernel
theorem dX10_term_104 : decode cX10_term 104 = .ok (.iload_n 2, 1) := by decide +kernel
theorem dX10_term_105 : decode cX10_term 105 = .ok (.bipush 42, 2) := by decide +kernel
theorem dX10_term_107 : decode cX10_term 107 = .ok (.if_icmp .ne 7, 3) := by decide +kernel
theorem dX10_term_110 : decode cX10_term 110 = .ok (.iconst 4, 1) := by decide +kernel
theorem dX10_term_111 : decode cX10_term 111 = .ok (.goto 5, 3) := by decide +kernel
theorem dX10_term_114 : decode cX10_term 114 = .ok (.bipush 8, 2) := by decide +kernel
theorem dX10_term_116 : decode cX10_term 116 = .ok (.ior, 1) := by decide +kernel
theorem dX10_term_117 : decode cX10_term 117 = .ok (.putfield 216, 3) := by decide +kernel
theorem dX10_term_120 : decode cX10_term 120 = .ok (.iload_n 2, 1) := by decide +kernel
theorem dX10_term_121 : decode cX10_term 121 = .ok (.bipush 42, 2) := by decide +kernel
theorem dX10_term_123 : decode cX10_term 123 = .ok (.if_icmp .eq 14, 3) := by decide +kernel
theorem dX10_term_126 : decode cX10_term 126 = .ok (.iload_n 3, 1) := by decide +kernel
theorem dX10_term_127 : decode cX10_term 127 = .ok (.ifCond .ne 10, 3) := by decide +kernel
theorem dX10_term_130 : decode cX10_term 130 = .ok (.aload_n 0, 1) := by decide +kernel
theorem dX10_term_131 : decode cX10_term 131 = .ok (.iconst 1, 1) := by decide +kernel
theorem dX10_term_132 : decode cX10_term 132 = .ok (.invokevirtual 203, 3) := by decide +kernel
theorem dX10_term_135 : decode cX10_term 135 = .ok (.iconst 0, 1) := by decide +kernel
theorem dX10_term_136 : decode cX10_term 136 = .ok (.ireturn, 1) := by decide +kernel
theorem dX10_term_137 : decode cX10_term 137 = .ok (.iload_n 2, 1) := by decide +kernel
theorem dX10_term_138 : decode cX10_term 138 = .ok (.bipush 42, 2) := by decide +kernel
theorem dX10_term_140 : decode cX10_term 140 = .ok (.if_icmp .ne 9, 3) := by decide +kernel
theorem dX10_term_143 : decode cX10_term 143 = .ok (.iload_n 1, 1) := by decide +kernel
theorem dX10_term_144 : decode cX10_term 144 = .ok (.iload_n 3, 1) := by decide +kernel
theorem dX10_term_145 : decode cX10_term 145 = .ok (.imul, 1) := by decide +kernel
theorem dX10_term_146 : decode cX10_term 146 = .ok (.goto 18, 3) := by decide +kernel
theorem dX10_term_149 : decode cX10_term 149 = .ok (.iload_n 2, 1) := by decide +kernel
theorem dX10_term_150 : decode cX10_term 150 = .ok (.bipush 47, 2) := by decide +kernel
theorem dX10_term_152 : decode cX10_term 152 = .ok (.if_icmp .ne 9, 3) := by decide +kernel
theorem dX10_term_155 : decode cX10_term 155 = .ok (.iload_n 1, 1) := by decide +kernel
theorem dX10_term_156 : decode cX10_term 156 = .ok (.iload_n 3, 1) := by decide +kernel
theorem dX10_term_157 : decode cX10_term 157 = .ok (.idiv, 1) := by decide +kernel
theorem dX10_term_158 : decode cX10_term 158 = .ok (.goto 6, 3) := by decide +kernel
theorem dX10_term_161 : decode cX10_term 161 = .ok (.iload_n 1, 1) := by decide +kernel
theorem dX10_term_162 : decode cX10_term 162 = .ok (.iload_n 3, 1) := by decide +kernel
theorem dX10_term_163 : decode cX10_term 163 = .ok (.irem, 1) := by decide +kernel
theorem dX10_term_164 : decode cX10_term 164 = .ok (.istore_n 1, 1) := by decide +kernel
theorem dX10_term_165 : decode cX10_term 165 = .ok (.goto (-160), 3) := by decide +kernel
theorem dX10_term_168 : decode cX10_term 168 = .ok (.iload_n 1, 1) := by decide +kernel
theorem dX10_term_169 : decode cX10_term 169 = .ok (.ireturn, 1) := by decide +kernel
theorem dX10_sum_0 : decode cX10_sum 0 = .ok (.aload_n 0, 1) := by decide +kernel
theorem dX10_sum_1 : decode cX10_sum 1 = .ok (.invokevirtual 219, 3) := by decide +kernel
theorem dX10_sum_4 : decode cX10_sum 4 = .ok (.istore_n 1, 1) := by decide +kernel
theorem dX10_sum_5 : decode cX10_sum 5 = .ok (.aload_n 0, 1) := by decide +kernel
theorem dX10_sum_6 : decode cX10_sum 6 = .ok (.getfield 193, 3) := by decide +kernel
theorem dX10_sum_9 : decode cX10_sum 9 = .ok (.ifCond .ne 105, 3) := by decide +kernel
theorem dX10_sum_12 : decode cX10_sum 12 = .ok (.aload_n 0, 1) := by decide +kernel
theorem dX10_sum_13 : decode cX10_sum 13 = .ok (.getfield 207, 3) := by decide +kernel
theorem dX10_sum_16 : decode cX10_sum 16 = .ok (.aload_n 0, 1) := by decide +kernel
theorem dX10_sum_17 : decode cX10_sum 17 = .ok (.getfield 184, 3) := by decide +kernel
theorem dX10_sum_20 : decode cX10_sum 20 = .ok (.if_icmp .ge 94, 3) := by decide +kernel
theorem dX10_sum_23 : decode cX10_sum 23 = .ok (.aload_n 0, 1) := by decide +kernel
theorem dX10_sum_24 : decode cX10_sum 24 = .ok (.getfield 24, 3) := by decide +kernel
theorem dX10_sum_27 : decode cX10_sum 27 = .ok (.aload_n 0, 1) := by decide +kernel
theorem dX10_sum_28 : decode cX10_sum 28 = .ok (.getfield 207, 3) := by decide +kernel
theorem dX10_sum_31 : decode cX10_sum 31 = .ok (.iaload, 1) := by decide +kernel
theorem dX10_sum_32 : decode cX10_sum 32 = .ok (.bipush 43, 2) := by decide +kernel
theorem dX10_sum_34 : decode cX10_sum 34 = .ok (.if_icmp .eq 17, 3) := by decide +kernel
theorem dX10_sum_37 : decode cX10_sum 37 = .ok (.aload_n 0, 1) := by decide +kernel
theorem dX10_sum_38 : decode cX10_sum 38 = .ok (.getfield 24, 3) := by decide +kernel
theorem dX10_sum_41 : decode cX10_sum 41 = .ok (.aload_n 0, 1) := by decide +kernel
theorem dX10_sum_42 : decode cX10_sum 42 = .ok (.getfield 207, 3) := by decide +kernel
theorem dX10_sum_45 : decode cX10_sum 45 = .ok (.iaload, 1) := by decide +kernel
theorem dX10_sum_46 : decode cX10_sum 46 = .ok (.bipush 45, 2) := by decide +kernel
theorem dX10_sum_48 : decode cX10_sum 48 = .ok (.if_icmp .ne 66, 3) := by decide +kernel
theorem dX10_sum_51 : decode cX10_sum 51 = .ok (.aload_n 0, 1) := by decide +kernel
theorem dX10_sum_52 : decode cX10_sum 52 = .ok (.getfield 24, 3) := by decide +kernel
theorem dX10_sum_55 : decode cX10_sum 55 = .ok (.aload_n 0, 1) := by decide +kernel
theorem dX10_sum_56 : decode cX10_sum 56 = .ok (.getfield 207, 3) := by decide +kernel
theorem dX10_sum_59 : decode cX10_sum 59 = .ok (.iaload, 1) := by decide +kernel
theorem dX10_sum_60 : decode cX10_sum 60 = .ok (.istore_n 2, 1) := by decide +kernel
theorem dX10_sum_61 : decode cX10_sum 61 = .ok (.aload_n 0, 1) := by decide +kernel
theorem dX10_sum_62 : decode cX10_sum 62 = .ok (.dup, 1) := by decide +kernel
theorem dX10_sum_63 : decode cX10_sum 63 = .ok (.getfield 207, 3) := by decide +kernel
theorem dX10_sum_66 : decode cX10_sum 66 = .ok (.iconst 1, 1) := by decide +kernel
theorem dX10_sum_67 : decode cX10_sum 67 = .ok (.iadd, 1) := by decide +kernel
theorem dX10_sum_68 : decode cX10_sum 68 = .ok (.putfield 207, 3) := by decide +kernel
theorem dX10_sum_71 : decode cX10_sum 71 = .ok (.aload_n 0, 1) := by decide +kernel
theorem dX10_sum_72 : decode cX10_sum 72 = .ok (.invokevirtual 219, 3) := by decide +kernel
theorem dX10_sum_75 : decode cX10_sum 75 = .ok (.istore_n 3, 1) := by decide +kernel
theorem dX10_sum_76 : decode cX10_sum 76 = .ok (.aload_n 0, 1) := by decide +kernel
theorem dX10_sum_77 : decode cX10_sum 77 = .ok (.getfield 193, 3) := by decide +kernel
theorem dX10_sum_80 : decode cX10_sum 80 = .ok (.ifCond .eq 5, 3) := by decide +kernel
theorem dX10_sum_83 : decode cX10_sum 83 = .ok (.iconst 0, 1) := by decide +kernel
theorem dX10_sum_84 : decode cX10_sum 84 = .ok (.ireturn, 1) := by decide +kernel
theorem dX10_sum_85 : decode cX10_sum 85 = .ok (.aload_n 0, 1) := by decide +kernel
theorem dX10_sum_86 : decode cX10_sum 86 = .ok (.dup, 1) := by decide +kernel
theorem dX10_sum_87 : decode cX10_sum 87 = .ok (.getfield 216, 3) := by decide +kernel
theorem dX10_sum_90 : decode cX10_sum 90 = .ok (.iconst 2, 1) := by decide +kernel
theorem dX10_sum_91 : decode cX10_sum 91 = .ok (.ior, 1) := by decide +kernel
theorem dX10_sum_92 : decode cX10_sum 92 = .ok (.putfield 216, 3) := by decide +kernel
theorem dX10_sum_95 : decode cX10_sum 95 = .ok (.iload_n 2, 1) := by decide +kernel
theorem dX10_sum_96 : decode cX10_sum 96 = .ok (.bipush 43, 2) := by decide +kernel
theorem dX10_sum_98 : decode cX10_sum 98 = .ok (.if_icmp .ne 9, 3) := by decide +kernel
theorem dX10_sum_101 : decode cX10_sum 101 = .ok (.iload_n 1, 1) := by decide +kernel
theorem dX10_sum_102 : decode cX10_sum 102 = .ok (.iload_n 3, 1) := by decide +kernel
theorem dX10_sum_103 : decode cX10_sum 103 = .ok (.iadd, 1) := by decide +kernel
theorem dX10_sum_104 : decode cX10_sum 104 = .ok (.goto 6, 3) := by decide +kernel
theorem dX10_sum_107 : decode cX10_sum 107 = .ok (.iload_n 1, 1) := by decide +kernel
theorem dX10_sum_108 : decode cX10_sum 108 = .ok (.iload_n 3, 1) := by decide +kernel
theorem dX10_sum_109 : decode cX10_sum 109 = .ok (.isub, 1) := by decide +kernel
theorem dX10_sum_110 : decode cX10_sum 110 = .ok (.istore_n 1, 1) := by decide +kernel
theorem dX10_sum_111 : decode cX10_sum 111 = .ok (.goto (-106), 3) := by decide +kernel
theorem dX10_sum_114 : decode cX10_sum 114 = .ok (.iload_n 1, 1) := by decide +kernel
theorem dX10_sum_115 : decode cX10_sum 115 = .ok (.ireturn, 1) := by decide +kernel
theorem dX10_expr_0 : decode cX10_expr 0 = .ok (.aload_n 0, 1) := by decide +kernel
theorem dX10_expr_1 : decode cX10_expr 1 = .ok (.invokevirtual 222, 3) := by decide +kernel
theorem dX10_expr_4 : decode cX10_expr 4 = .ok (.istore_n 1, 1) := by decide +kernel
theorem dX10_expr_5 : decode cX10_expr 5 = .ok (.aload_n 0, 1) := by decide +kernel
theorem dX10_expr_6 : decode cX10_expr 6 = .ok (.getfield 193, 3) := by decide +kernel
theorem dX10_expr_9 : decode cX10_expr 9 = .ok (.ifCond .ne 28, 3) := by decide +kernel
theorem dX10_expr_12 : decode cX10_expr 12 = .ok (.aload_n 0, 1) := by decide +kernel
theorem dX10_expr_13 : decode cX10_expr 13 = .ok (.getfield 207, 3) := by decide +kernel
theorem dX10_expr_16 : decode cX10_expr 16 = .ok (.aload_n 0, 1) := by decide +kernel
theorem dX10_expr_17 : decode cX10_expr 17 = .ok (.getfield 184, 3) := by decide +kernel
theorem dX10_expr_20 : decode cX10_expr 20 = .ok (.if_icmp .eq 17, 3) := by decide +kernel
theorem dX10_expr_23 : decode cX10_expr 23 = .ok (.aload_n 0, 1) := by decide +kernel
theorem dX10_expr_24 : decode cX10_expr 24 = .ok (.getfield 24, 3) := by decide +kernel
theorem dX10_expr_27 : decode cX10_expr 27 = .ok (.aload_n 0, 1) := by decide +kernel
theorem dX10_expr_28 : decode cX10_expr 28 = .ok (.getfield 207, 3) := by decide +kernel
theorem dX10_expr_31 : decode cX10_expr 31 = .ok (.iaload, 1) := by decide +kernel
theorem dX10_expr_32 : decode cX10_expr 32 = .ok (.bipush 60, 2) := by decide +kernel
theorem dX10_expr_34 : decode cX10_expr 34 = .ok (.if_icmp .eq 5, 3) := by decide +kernel
theorem dX10_expr_37 : decode cX10_expr 37 = .ok (.iload_n 1, 1) := by decide +kernel
theorem dX10_expr_38 : decode cX10_expr 38 = .ok (.ireturn, 1) := by decide +kernel
theorem dX10_expr_39 : decode cX10_expr 39 = .ok (.aload_n 0, 1) := by decide +kernel
theorem dX10_expr_40 : decode cX10_expr 40 = .ok (.dup, 1) := by decide +kernel
theorem dX10_expr_41 : decode cX10_expr 41 = .ok (.getfield 207, 3) := by decide +kernel
theorem dX10_expr_44 : decode cX10_expr 44 = .ok (.iconst 1, 1) := by decide +kernel
theorem dX10_expr_45 : decode cX10_expr 45 = .ok (.iadd, 1) := by decide +kernel
theorem dX10_expr_46 : decode cX10_expr 46 = .ok (.putfield 207, 3) := by decide +kernel
theorem dX10_expr_49 : decode cX10_expr 49 = .ok (.aload_n 0, 1) := by decide +kernel
theorem dX10_expr_50 : decode cX10_expr 50 = .ok (.invokevirtual 222, 3) := by decide +kernel
theorem dX10_expr_53 : decode cX10_expr 53 = .ok (.istore_n 2, 1) := by decide +kernel
theorem dX10_expr_54 : decode cX10_expr 54 = .ok (.aload_n 0, 1) := by decide +kernel
theorem dX10_expr_55 : decode cX10_expr 55 = .ok (.getfield 193, 3) := by decide +kernel
theorem dX10_expr_58 : decode cX10_expr 58 = .ok (.ifCond .eq 5, 3) := by decide +kernel
theorem dX10_expr_61 : decode cX10_expr 61 = .ok (.iconst 0, 1) := by decide +kernel
theorem dX10_expr_62 : decode cX10_expr 62 = .ok (.ireturn, 1) := by decide +kernel
theorem dX10_expr_63 : decode cX10_expr 63 = .ok (.aload_n 0, 1) := by decide +kernel
theorem dX10_expr_64 : decode cX10_expr 64 = .ok (.dup, 1) := by decide +kernel
theorem dX10_expr_65 : decode cX10_expr 65 = .ok (.getfield 216, 3) := by decide +kernel
theorem dX10_expr_68 : decode cX10_expr 68 = .ok (.bipush 16, 2) := by decide +kernel
theorem dX10_expr_70 : decode cX10_expr 70 = .ok (.ior, 1) := by decide +kernel
theorem dX10_expr_71 : decode cX10_expr 71 = .ok (.putfield 216, 3) := by decide +kernel
theorem dX10_expr_74 : decode cX10_expr 74 = .ok (.iload_n 1, 1) := by decide +kernel
theorem dX10_expr_75 : decode cX10_expr 75 = .ok (.iload_n 2, 1) := by decide +kernel
theorem dX10_expr_76 : decode cX10_expr 76 = .ok (.if_icmp .ge 7, 3) := by decide +kernel
theorem dX10_expr_79 : decode cX10_expr 79 = .ok (.iconst 1, 1) := by decide +kernel
theorem dX10_expr_80 : decode cX10_expr 80 = .ok (.goto 4, 3) := by decide +kernel
theorem dX10_expr_83 : decode cX10_expr 83 = .ok (.iconst 0, 1) := by decide +kernel
theorem dX10_expr_84 : decode cX10_expr 84 = .ok (.ireturn, 1) := by decide +kernel
theorem dX10_block_0 : decode cX10_block 0 = .ok (.aload_n 0, 1) := by decide +kernel
theorem dX10_block_1 : decode cX10_block 1 = .ok (.invokevirtual 225, 3) := by decide +kernel
theorem dX10_block_4 : decode cX10_block 4 = .ok (.aload_n 0, 1) := by decide +kernel
theorem dX10_block_5 : decode cX10_block 5 = .ok (.getfield 193, 3) := by decide +kernel
theorem dX10_block_8 : decode cX10_block 8 = .ok (.ifCond .ne 28, 3) := by decide +kernel
theorem dX10_block_11 : decode cX10_block 11 = .ok (.aload_n 0, 1) := by decide +kernel
theorem dX10_block_12 : decode cX10_block 12 = .ok (.getfield 207, 3) := by decide +kernel
theorem dX10_block_15 : decode cX10_block 15 = .ok (.aload_n 0, 1) := by decide +kernel
theorem dX10_block_16 : decode cX10_block 16 = .ok (.getfield 184, 3) := by decide +kernel
theorem dX10_block_19 : decode cX10_block 19 = .ok (.if_icmp .eq 17, 3) := by decide +kernel
theorem dX10_block_22 : decode cX10_block 22 = .ok (.aload_n 0, 1) := by decide +kernel
theorem dX10_block_23 : decode cX10_block 23 = .ok (.getfield 24, 3) := by decide +kernel
