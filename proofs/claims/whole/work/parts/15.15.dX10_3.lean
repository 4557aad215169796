theorem dX10_block_26 : decode cX10_block 26 = .ok (.aload_n 0, 1) := by decide +kernel
theorem dX10_block_27 : decode cX10_block 27 = .ok (.getfield 207, 3) := by decide +kernel
theorem dX10_block_30 : decode cX10_block 30 = .ok (.iaload, 1) := by decide +kernel
theorem dX10_block_31 : decode cX10_block 31 = .ok (.bipush 59, 2) := by decide +kernel
theorem dX10_block_33 : decode cX10_block 33 = .ok (.if_icmp .eq 4, 3) := by decide +kernel
theorem dX10_block_36 : decode cX10_block 36 = .ok (.return_, 1) := by decide +kernel
theorem dX10_block_37 : decode cX10_block 37 = .ok (.aload_n 0, 1) := by decide +kernel
theorem dX10_block_38 : decode cX10_block 38 = .ok (.dup, 1) := by decide +kernel
theorem dX10_block_39 : decode cX10_block 39 = .ok (.getfield 207, 3) := by decide +kernel
theorem dX10_block_42 : decode cX10_block 42 = .ok (.iconst 1, 1) := by decide +kernel
theorem dX10_block_43 : decode cX10_block 43 = .ok (.iadd, 1) := by decide +kernel
theorem dX10_block_44 : decode cX10_block 44 = .ok (.putfield 207, 3) := by decide +kernel
theorem dX10_block_47 : decode cX10_block 47 = .ok (.goto (-47), 3) := by decide +kernel
theorem dX10_braces_0 : decode cX10_braces 0 = .ok (.aload_n 0, 1) := by decide +kernel
theorem dX10_braces_1 : decode cX10_braces 1 = .ok (.getfield 27, 3) := by decide +kernel
theorem dX10_braces_4 : decode cX10_braces 4 = .ok (.aload_n 0, 1) := by decide +kernel
theorem dX10_braces_5 : decode cX10_braces 5 = .ok (.getfield 207, 3) := by decide +kernel
theorem dX10_braces_8 : decode cX10_braces 8 = .ok (.iaload, 1) := by decide +kernel
theorem dX10_braces_9 : decode cX10_braces 9 = .ok (.istore_n 2, 1) := by decide +kernel
theorem dX10_braces_10 : decode cX10_braces 10 = .ok (.aload_n 0, 1) := by decide +kernel
theorem dX10_braces_11 : decode cX10_braces 11 = .ok (.dup, 1) := by decide +kernel
theorem dX10_braces_12 : decode cX10_braces 12 = .ok (.getfield 207, 3) := by decide +kernel
theorem dX10_braces_15 : decode cX10_braces 15 = .ok (.iconst 1, 1) := by decide +kernel
theorem dX10_braces_16 : decode cX10_braces 16 = .ok (.iadd, 1) := by decide +kernel
theorem dX10_braces_17 : decode cX10_braces 17 = .ok (.putfield 207, 3) := by decide +kernel
theorem dX10_braces_20 : decode cX10_braces 20 = .ok (.iload_n 1, 1) := by decide +kernel
theorem dX10_braces_21 : decode cX10_braces 21 = .ok (.ifCond .eq 7, 3) := by decide +kernel
theorem dX10_braces_24 : decode cX10_braces 24 = .ok (.aload_n 0, 1) := by decide +kernel
theorem dX10_braces_25 : decode cX10_braces 25 = .ok (.invokevirtual 228, 3) := by decide +kernel
theorem dX10_braces_28 : decode cX10_braces 28 = .ok (.aload_n 0, 1) := by decide +kernel
theorem dX10_braces_29 : decode cX10_braces 29 = .ok (.getfield 193, 3) := by decide +kernel
theorem dX10_braces_32 : decode cX10_braces 32 = .ok (.ifCond .ne 10, 3) := by decide +kernel
theorem dX10_braces_35 : decode cX10_braces 35 = .ok (.aload_n 0, 1) := by decide +kernel
theorem dX10_braces_36 : decode cX10_braces 36 = .ok (.iload_n 2, 1) := by decide +kernel
theorem dX10_braces_37 : decode cX10_braces 37 = .ok (.iconst 1, 1) := by decide +kernel
theorem dX10_braces_38 : decode cX10_braces 38 = .ok (.iadd, 1) := by decide +kernel
theorem dX10_braces_39 : decode cX10_braces 39 = .ok (.putfield 207, 3) := by decide +kernel
theorem dX10_braces_42 : decode cX10_braces 42 = .ok (.return_, 1) := by decide +kernel
theorem dX10_does_0 : decode cX10_does 0 = .ok (.aload_n 0, 1) := by decide +kernel
theorem dX10_does_1 : decode cX10_does 1 = .ok (.getfield 24, 3) := by decide +kernel
theorem dX10_does_4 : decode cX10_does 4 = .ok (.aload_n 0, 1) := by decide +kernel
theorem dX10_does_5 : decode cX10_does 5 = .ok (.getfield 207, 3) := by decide +kernel
theorem dX10_does_8 : decode cX10_does 8 = .ok (.iaload, 1) := by decide +kernel
theorem dX10_does_9 : decode cX10_does 9 = .ok (.istore_n 1, 1) := by decide +kernel
theorem dX10_does_10 : decode cX10_does 10 = .ok (.iload_n 1, 1) := by decide +kernel
theorem dX10_does_11 : decode cX10_does 11 = .ok (.sipush 256, 3) := by decide +kernel
theorem dX10_does_14 : decode cX10_does 14 = .ok (.if_icmp .ne 8, 3) := by decide +kernel
theorem dX10_does_17 : decode cX10_does 17 = .ok (.aload_n 0, 1) := by decide +kernel
theorem dX10_does_18 : decode cX10_does 18 = .ok (.invokevirtual 231, 3) := by decide +kernel
theorem dX10_does_21 : decode cX10_does 21 = .ok (.return_, 1) := by decide +kernel
theorem dX10_does_22 : decode cX10_does 22 = .ok (.aload_n 0, 1) := by decide +kernel
theorem dX10_does_23 : decode cX10_does 23 = .ok (.invokevirtual 234, 3) := by decide +kernel
theorem dX10_does_26 : decode cX10_does 26 = .ok (.ifCond .ne 4, 3) := by decide +kernel
theorem dX10_does_29 : decode cX10_does 29 = .ok (.return_, 1) := by decide +kernel
theorem dX10_does_30 : decode cX10_does 30 = .ok (.aload_n 0, 1) := by decide +kernel
theorem dX10_does_31 : decode cX10_does 31 = .ok (.dup, 1) := by decide +kernel
theorem dX10_does_32 : decode cX10_does 32 = .ok (.getfield 207, 3) := by decide +kernel
theorem dX10_does_35 : decode cX10_does 35 = .ok (.iconst 1, 1) := by decide +kernel
theorem dX10_does_36 : decode cX10_does 36 = .ok (.iadd, 1) := by decide +kernel
theorem dX10_does_37 : decode cX10_does 37 = .ok (.putfield 207, 3) := by decide +kernel
theorem dX10_does_40 : decode cX10_does 40 = .ok (.iload_n 1, 1) := by decide +kernel
theorem dX10_does_41 : decode cX10_does 41 = .ok (.sipush 257, 3) := by decide +kernel
theorem dX10_does_44 : decode cX10_does 44 = .ok (.if_icmp .ne 98, 3) := by decide +kernel
theorem dX10_does_47 : decode cX10_does 47 = .ok (.aload_n 0, 1) := by decide +kernel
theorem dX10_does_48 : decode cX10_does 48 = .ok (.dup, 1) := by decide +kernel
theorem dX10_does_49 : decode cX10_does 49 = .ok (.getfield 216, 3) := by decide +kernel
theorem dX10_does_52 : decode cX10_does 52 = .ok (.bipush 32, 2) := by decide +kernel
theorem dX10_does_54 : decode cX10_does 54 = .ok (.ior, 1) := by decide +kernel
theorem dX10_does_55 : decode cX10_does 55 = .ok (.putfield 216, 3) := by decide +kernel
theorem dX10_does_58 : decode cX10_does 58 = .ok (.aload_n 0, 1) := by decide +kernel
theorem dX10_does_59 : decode cX10_does 59 = .ok (.invokevirtual 210, 3) := by decide +kernel
theorem dX10_does_62 : decode cX10_does 62 = .ok (.ifCond .eq 7, 3) := by decide +kernel
theorem dX10_does_65 : decode cX10_does 65 = .ok (.iconst 1, 1) := by decide +kernel
theorem dX10_does_66 : decode cX10_does 66 = .ok (.goto 4, 3) := by decide +kernel
theorem dX10_does_69 : decode cX10_does 69 = .ok (.iconst 0, 1) := by decide +kernel
theorem dX10_does_70 : decode cX10_does 70 = .ok (.istore_n 2, 1) := by decide +kernel
theorem dX10_does_71 : decode cX10_does 71 = .ok (.aload_n 0, 1) := by decide +kernel
theorem dX10_does_72 : decode cX10_does 72 = .ok (.getfield 193, 3) := by decide +kernel
theorem dX10_does_75 : decode cX10_does 75 = .ok (.ifCond .eq 4, 3) := by decide +kernel
theorem dX10_does_78 : decode cX10_does 78 = .ok (.return_, 1) := by decide +kernel
theorem dX10_does_79 : decode cX10_does 79 = .ok (.aload_n 0, 1) := by decide +kernel
theorem dX10_does_80 : decode cX10_does 80 = .ok (.iload_n 2, 1) := by decide +kernel
theorem dX10_does_81 : decode cX10_does 81 = .ok (.invokevirtual 237, 3) := by decide +kernel
theorem dX10_does_84 : decode cX10_does 84 = .ok (.aload_n 0, 1) := by decide +kernel
theorem dX10_does_85 : decode cX10_does 85 = .ok (.getfield 193, 3) := by decide +kernel
theorem dX10_does_88 : decode cX10_does 88 = .ok (.ifCond .ne 29, 3) := by decide +kernel
theorem dX10_does_91 : decode cX10_does 91 = .ok (.aload_n 0, 1) := by decide +kernel
theorem dX10_does_92 : decode cX10_does 92 = .ok (.getfield 207, 3) := by decide +kernel
theorem dX10_does_95 : decode cX10_does 95 = .ok (.aload_n 0, 1) := by decide +kernel
theorem dX10_does_96 : decode cX10_does 96 = .ok (.getfield 184, 3) := by decide +kernel
theorem dX10_does_99 : decode cX10_does 99 = .ok (.if_icmp .eq 18, 3) := by decide +kernel
theorem dX10_does_102 : decode cX10_does 102 = .ok (.aload_n 0, 1) := by decide +kernel
theorem dX10_does_103 : decode cX10_does 103 = .ok (.getfield 24, 3) := by decide +kernel
theorem dX10_does_106 : decode cX10_does 106 = .ok (.aload_n 0, 1) := by decide +kernel
theorem dX10_does_107 : decode cX10_does 107 = .ok (.getfield 207, 3) := by decide +kernel
theorem dX10_does_110 : decode cX10_does 110 = .ok (.iaload, 1) := by decide +kernel
theorem dX10_does_111 : decode cX10_does 111 = .ok (.sipush 258, 3) := by decide +kernel
theorem dX10_does_114 : decode cX10_does 114 = .ok (.if_icmp .eq 4, 3) := by decide +kernel
theorem dX10_does_117 : decode cX10_does 117 = .ok (.return_, 1) := by decide +kernel
theorem dX10_does_118 : decode cX10_does 118 = .ok (.aload_n 0, 1) := by decide +kernel
theorem dX10_does_119 : decode cX10_does 119 = .ok (.dup, 1) := by decide +kernel
theorem dX10_does_120 : decode cX10_does 120 = .ok (.getfield 207, 3) := by decide +kernel
theorem dX10_does_123 : decode cX10_does 123 = .ok (.iconst 1, 1) := by decide +kernel
theorem dX10_does_124 : decode cX10_does 124 = .ok (.iadd, 1) := by decide +kernel
theorem dX10_does_125 : decode cX10_does 125 = .ok (.putfield 207, 3) := by decide +kernel
theorem dX10_does_128 : decode cX10_does 128 = .ok (.aload_n 0, 1) := by decide +kernel
theorem dX10_does_129 : decode cX10_does 129 = .ok (.iload_n 2, 1) := by decide +kernel
theorem dX10_does_130 : decode cX10_does 130 = .ok (.ifCond .ne 7, 3) := by decide +kernel
theorem dX10_does_133 : decode cX10_does 133 = .ok (.iconst 1, 1) := by decide +kernel
theorem dX10_does_134 : decode cX10_does 134 = .ok (.goto 4, 3) := by decide +kernel
theorem dX10_does_137 : decode cX10_does 137 = .ok (.iconst 0, 1) := by decide +kernel
theorem dX10_does_138 : decode cX10_does 138 = .ok (.invokevirtual 237, 3) := by decide +kernel
theorem dX10_does_141 : decode cX10_does 141 = .ok (.return_, 1) := by decide +kernel
theorem dX10_does_142 : decode cX10_does 142 = .ok (.aload_n 0, 1) := by decide +kernel
theorem dX10_does_143 : decode cX10_does 143 = .ok (.dup, 1) := by decide +kernel
theorem dX10_does_144 : decode cX10_does 144 = .ok (.getfield 216, 3) := by decide +kernel
theorem dX10_does_147 : decode cX10_does 147 = .ok (.iconst 1, 1) := by decide +kernel
theorem dX10_does_148 : decode cX10_does 148 = .ok (.ior, 1) := by decide +kernel
theorem dX10_does_149 : decode cX10_does 149 = .ok (.putfield 216, 3) := by decide +kernel
theorem dX10_does_152 : decode cX10_does 152 = .ok (.aload_n 0, 1) := by decide +kernel
theorem dX10_does_153 : decode cX10_does 153 = .ok (.dup, 1) := by decide +kernel
theorem dX10_does_154 : decode cX10_does 154 = .ok (.getfield 207, 3) := by decide +kernel
theorem dX10_does_157 : decode cX10_does 157 = .ok (.iconst 1, 1) := by decide +kernel
theorem dX10_does_158 : decode cX10_does 158 = .ok (.iadd, 1) := by decide +kernel
theorem dX10_does_159 : decode cX10_does 159 = .ok (.putfield 207, 3) := by decide +kernel
theorem dX10_does_162 : decode cX10_does 162 = .ok (.aload_n 0, 1) := by decide +kernel
theorem dX10_does_163 : decode cX10_does 163 = .ok (.invokevirtual 210, 3) := by decide +kernel
theorem dX10_does_166 : decode cX10_does 166 = .ok (.istore_n 2, 1) := by decide +kernel
theorem dX10_does_167 : decode cX10_does 167 = .ok (.aload_n 0, 1) := by decide +kernel
theorem dX10_does_168 : decode cX10_does 168 = .ok (.getfield 193, 3) := by decide +kernel
theorem dX10_does_171 : decode cX10_does 171 = .ok (.ifCond .ne 10, 3) := by decide +kernel
theorem dX10_does_174 : decode cX10_does 174 = .ok (.aload_n 0, 1) := by decide +kernel
theorem dX10_does_175 : decode cX10_does 175 = .ok (.getfield 40, 3) := by decide +kernel
theorem dX10_does_178 : decode cX10_does 178 = .ok (.iload_n 1, 1) := by decide +kernel
theorem dX10_does_179 : decode cX10_does 179 = .ok (.iload_n 2, 1) := by decide +kernel
theorem dX10_does_180 : decode cX10_does 180 = .ok (.iastore, 1) := by decide +kernel
theorem dX10_does_181 : decode cX10_does 181 = .ok (.return_, 1) := by decide +kernel
theorem dX10_loops_0 : decode cX10_loops 0 = .ok (.aload_n 0, 1) := by decide +kernel
theorem dX10_loops_1 : decode cX10_loops 1 = .ok (.getfield 207, 3) := by decide +kernel
theorem dX10_loops_4 : decode cX10_loops 4 = .ok (.istore_n 1, 1) := by decide +kernel
theorem dX10_loops_5 : decode cX10_loops 5 = .ok (.aload_n 0, 1) := by decide +kernel
theorem dX10_loops_6 : decode cX10_loops 6 = .ok (.invokevirtual 234, 3) := by decide +kernel
theorem dX10_loops_9 : decode cX10_loops 9 = .ok (.ifCond .eq 77, 3) := by decide +kernel
theorem dX10_loops_12 : decode cX10_loops 12 = .ok (.aload_n 0, 1) := by decide +kernel
theorem dX10_loops_13 : decode cX10_loops 13 = .ok (.dup, 1) := by decide +kernel
theorem dX10_loops_14 : decode cX10_loops 14 = .ok (.getfield 216, 3) := by decide +kernel
theorem dX10_loops_17 : decode cX10_loops 17 = .ok (.aload_n 0, 1) := by decide +kernel
theorem dX10_loops_18 : decode cX10_loops 18 = .ok (.getfield 30, 3) := by decide +kernel
theorem dX10_loops_21 : decode cX10_loops 21 = .ok (.iload_n 1, 1) := by decide +kernel
theorem dX10_loops_22 : decode cX10_loops 22 = .ok (.baload, 1) := by decide +kernel
theorem dX10_loops_23 : decode cX10_loops 23 = .ok (.ifCond .eq 9, 3) := by decide +kernel
theorem dX10_loops_26 : decode cX10_loops 26 = .ok (.sipush 192, 3) := by decide +kernel
theorem dX10_loops_29 : decode cX10_loops 29 = .ok (.goto 5, 3) := by decide +kernel
theorem dX10_loops_32 : decode cX10_loops 32 = .ok (.bipush 64, 2) := by decide +kernel
theorem dX10_loops_34 : decode cX10_loops 34 = .ok (.ior, 1) := by decide +kernel
theorem dX10_loops_35 : decode cX10_loops 35 = .ok (.putfield 216, 3) := by decide +kernel
theorem dX10_loops_38 : decode cX10_loops 38 = .ok (.aload_n 0, 1) := by decide +kernel
theorem dX10_loops_39 : decode cX10_loops 39 = .ok (.iload_n 1, 1) := by decide +kernel
theorem dX10_loops_40 : decode cX10_loops 40 = .ok (.iconst 1, 1) := by decide +kernel
theorem dX10_loops_41 : decode cX10_loops 41 = .ok (.iadd, 1) := by decide +kernel
theorem dX10_loops_42 : decode cX10_loops 42 = .ok (.putfield 207, 3) := by decide +kernel
theorem dX10_loops_45 : decode cX10_loops 45 = .ok (.aload_n 0, 1) := by decide +kernel
theorem dX10_loops_46 : decode cX10_loops 46 = .ok (.invokevirtual 210, 3) := by decide +kernel
theorem dX10_loops_49 : decode cX10_loops 49 = .ok (.ifCond .eq 7, 3) := by decide +kernel
theorem dX10_loops_52 : decode cX10_loops 52 = .ok (.iconst 1, 1) := by decide +kernel
theorem dX10_loops_53 : decode cX10_loops 53 = .ok (.goto 4, 3) := by decide +kernel
theorem dX10_loops_56 : decode cX10_loops 56 = .ok (.iconst 0, 1) := by decide +kernel
theorem dX10_loops_57 : decode cX10_loops 57 = .ok (.istore_n 2, 1) := by decide +kernel
theorem dX10_loops_58 : decode cX10_loops 58 = .ok (.aload_n 0, 1) := by decide +kernel
theorem dX10_loops_59 : decode cX10_loops 59 = .ok (.getfield 193, 3) := by decide +kernel
theorem dX10_loops_62 : decode cX10_loops 62 = .ok (.ifCond .eq 4, 3) := by decide +kernel
theorem dX10_loops_65 : decode cX10_loops 65 = .ok (.return_, 1) := by decide +kernel
theorem dX10_loops_66 : decode cX10_loops 66 = .ok (.aload_n 0, 1) := by decide +kernel
theorem dX10_loops_67 : decode cX10_loops 67 = .ok (.iload_n 2, 1) := by decide +kernel
theorem dX10_loops_68 : decode cX10_loops 68 = .ok (.invokevirtual 237, 3) := by decide +kernel
theorem dX10_loops_71 : decode cX10_loops 71 = .ok (.aload_n 0, 1) := by decide +kernel
theorem dX10_loops_72 : decode cX10_loops 72 = .ok (.getfield 193, 3) := by decide +kernel
theorem dX10_loops_75 : decode cX10_loops 75 = .ok (.ifCond .ne 7, 3) := by decide +kernel
theorem dX10_loops_78 : decode cX10_loops 78 = .ok (.iload_n 2, 1) := by decide +kernel
theorem dX10_loops_79 : decode cX10_loops 79 = .ok (.ifCond .ne 4, 3) := by decide +kernel
theorem dX10_loops_82 : decode cX10_loops 82 = .ok (.return_, 1) := by decide +kernel
theorem dX10_loops_83 : decode cX10_loops 83 = .ok (.goto (-78), 3) := by decide +kernel
theorem dX10_loops_86 : decode cX10_loops 86 = .ok (.return_, 1) := by decide +kernel
theorem dX10_runs_0 : decode cX10_runs 0 = .ok (.bipush 97, 2) := by decide +kernel
theorem dX10_runs_2 : decode cX10_runs 2 = .ok (.istore_n 3, 1) := by decide +kernel
theorem dX10_runs_3 : decode cX10_runs 3 = .ok (.iload_n 3, 1) := by decide +kernel
theorem dX10_runs_4 : decode cX10_runs 4 = .ok (.bipush 114, 2) := by decide +kernel
theorem dX10_runs_6 : decode cX10_runs 6 = .ok (.if_icmp .gt 16, 3) := by decide +kernel
theorem dX10_runs_9 : decode cX10_runs 9 = .ok (.aload_n 0, 1) := by decide +kernel
theorem dX10_runs_10 : decode cX10_runs 10 = .ok (.getfield 40, 3) := by decide +kernel
theorem dX10_runs_13 : decode cX10_runs 13 = .ok (.iload_n 3, 1) := by decide +kernel
theorem dX10_runs_14 : decode cX10_runs 14 = .ok (.iconst 0, 1) := by decide +kernel
theorem dX10_runs_15 : decode cX10_runs 15 = .ok (.iastore, 1) := by decide +kernel
theorem dX10_runs_16 : decode cX10_runs 16 = .ok (.iinc 3 1, 3) := by decide +kernel
theorem dX10_runs_19 : decode cX10_runs 19 = .ok (.goto (-16), 3) := by decide +kernel
theorem dX10_runs_22 : decode cX10_runs 22 = .ok (.aload_n 0, 1) := by decide +kernel
theorem dX10_runs_23 : decode cX10_runs 23 = .ok (.getfield 40, 3) := by decide +kernel
theorem dX10_runs_26 : decode cX10_runs 26 = .ok (.bipush 97, 2) := by decide +kernel
theorem dX10_runs_28 : decode cX10_runs 28 = .ok (.iload_n 1, 1) := by decide +kernel
theorem dX10_runs_29 : decode cX10_runs 29 = .ok (.iastore, 1) := by decide +kernel
theorem dX10_runs_30 : decode cX10_runs 30 = .ok (.aload_n 0, 1) := by decide +kernel
theorem dX10_runs_31 : decode cX10_runs 31 = .ok (.getfield 40, 3) := by decide +kernel
theorem dX10_runs_34 : decode cX10_runs 34 = .ok (.bipush 98, 2) := by decide +kernel
theorem dX10_runs_36 : decode cX10_runs 36 = .ok (.iload_n 2, 1) := by decide +kernel
theorem dX10_runs_37 : decode cX10_runs 37 = .ok (.iastore, 1) := by decide +kernel
theorem dX10_runs_38 : decode cX10_runs 38 = .ok (.aload_n 0, 1) := by decide +kernel
theorem dX10_runs_39 : decode cX10_runs 39 = .ok (.iconst 0, 1) := by decide +kernel
theorem dX10_runs_40 : decode cX10_runs 40 = .ok (.putfield 207, 3) := by decide +kernel
theorem dX10_runs_43 : decode cX10_runs 43 = .ok (.aload_n 0, 1) := by decide +kernel
theorem dX10_runs_44 : decode cX10_runs 44 = .ok (.iconst 0, 1) := by decide +kernel
theorem dX10_runs_45 : decode cX10_runs 45 = .ok (.putfield 200, 3) := by decide +kernel
theorem dX10_runs_48 : decode cX10_runs 48 = .ok (.aload_n 0, 1) := by decide +kernel
theorem dX10_runs_49 : decode cX10_runs 49 = .ok (.iconst 0, 1) := by decide +kernel
theorem dX10_runs_50 : decode cX10_runs 50 = .ok (.putfield 216, 3) := by decide +kernel
theorem dX10_runs_53 : decode cX10_runs 53 = .ok (.aload_n 0, 1) := by decide +kernel
theorem dX10_runs_54 : decode cX10_runs 54 = .ok (.iconst 0, 1) := by decide +kernel
theorem dX10_runs_55 : decode cX10_runs 55 = .ok (.putfield 197, 3) := by decide +kernel
theorem dX10_runs_58 : decode cX10_runs 58 = .ok (.aload_n 0, 1) := by decide +kernel
theorem dX10_runs_59 : decode cX10_runs 59 = .ok (.iconst 0, 1) := by decide +kernel
theorem dX10_runs_60 : decode cX10_runs 60 = .ok (.putfield 193, 3) := by decide +kernel
theorem dX10_runs_63 : decode cX10_runs 63 = .ok (.aload_n 0, 1) := by decide +kernel
theorem dX10_runs_64 : decode cX10_runs 64 = .ok (.invokevirtual 228, 3) := by decide +kernel
theorem dX10_runs_67 : decode cX10_runs 67 = .ok (.return_, 1) := by decide +kernel
theorem dX10_run_0 : decode cX10_run 0 = .ok (.aload_n 0, 1) := by decide +kernel
theorem dX10_run_1 : decode cX10_run 1 = .ok (.iconst 0, 1) := by decide +kernel
theorem dX10_run_2 : decode cX10_run 2 = .ok (.putfield 79, 3) := by decide +kernel
theorem dX10_run_5 : decode cX10_run 5 = .ok (.aload_n 0, 1) := by decide +kernel
theorem dX10_run_6 : decode cX10_run 6 = .ok (.aload_n 0, 1) := by decide +kernel
theorem dX10_run_7 : decode cX10_run 7 = .ok (.getfield 184, 3) := by decide +kernel
theorem dX10_run_10 : decode cX10_run 10 = .ok (.ifCond .ne 7, 3) := by decide +kernel
theorem dX10_run_13 : decode cX10_run 13 = .ok (.iconst 1, 1) := by decide +kernel
theorem dX10_run_14 : decode cX10_run 14 = .ok (.goto 4, 3) := by decide +kernel
theorem dX10_run_17 : decode cX10_run 17 = .ok (.iconst 0, 1) := by decide +kernel
theorem dX10_run_18 : decode cX10_run 18 = .ok (.iconst 1, 1) := by decide +kernel
theorem dX10_run_19 : decode cX10_run 19 = .ok (.invokevirtual 180, 3) := by decide +kernel
theorem dX10_run_22 : decode cX10_run 22 = .ok (.ifCond .ne 25, 3) := by decide +kernel
theorem dX10_run_25 : decode cX10_run 25 = .ok (.aload_n 0, 1) := by decide +kernel
theorem dX10_run_26 : decode cX10_run 26 = .ok (.iload_n 3, 1) := by decide +kernel
theorem dX10_run_27 : decode cX10_run 27 = .ok (.iconst 0, 1) := by decide +kernel
theorem dX10_run_28 : decode cX10_run 28 = .ok (.iconst 3, 1) := by decide +kernel
theorem dX10_run_29 : decode cX10_run 29 = .ok (.invokestatic 104, 3) := by decide +kernel
theorem dX10_run_32 : decode cX10_run 32 = .ok (.ifCond .ne 7, 3) := by decide +kernel
theorem dX10_run_35 : decode cX10_run 35 = .ok (.iconst 1, 1) := by decide +kernel
theorem dX10_run_36 : decode cX10_run 36 = .ok (.goto 4, 3) := by decide +kernel
theorem dX10_run_39 : decode cX10_run 39 = .ok (.iconst 0, 1) := by decide +kernel
theorem dX10_run_40 : decode cX10_run 40 = .ok (.iconst 2, 1) := by decide +kernel
theorem dX10_run_41 : decode cX10_run 41 = .ok (.invokevirtual 180, 3) := by decide +kernel
theorem dX10_run_44 : decode cX10_run 44 = .ok (.ifCond .eq 5, 3) := by decide +kernel
theorem dX10_run_47 : decode cX10_run 47 = .ok (.iconst 0, 1) := by decide +kernel
theorem dX10_run_48 : decode cX10_run 48 = .ok (.ireturn, 1) := by decide +kernel
theorem dX10_run_49 : decode cX10_run 49 = .ok (.aload_n 0, 1) := by decide +kernel
theorem dX10_run_50 : decode cX10_run 50 = .ok (.iload_n 1, 1) := by decide +kernel
theorem dX10_run_51 : decode cX10_run 51 = .ok (.iload_n 2, 1) := by decide +kernel
theorem dX10_run_52 : decode cX10_run 52 = .ok (.invokevirtual 241, 3) := by decide +kernel
theorem dX10_run_55 : decode cX10_run 55 = .ok (.iload_n 3, 1) := by decide +kernel
theorem dX10_run_56 : decode cX10_run 56 = .ok (.ifCond .ne 10, 3) := by decide +kernel
theorem dX10_run_59 : decode cX10_run 59 = .ok (.aload_n 0, 1) := by decide +kernel
theorem dX10_run_60 : decode cX10_run 60 = .ok (.getfield 197, 3) := by decide +kernel
theorem dX10_run_63 : decode cX10_run 63 = .ok (.goto 34, 3) := by decide +kernel
theorem dX10_run_66 : decode cX10_run 66 = .ok (.iload_n 3, 1) := by decide +kernel
theorem dX10_run_67 : decode cX10_run 67 = .ok (.iconst 1, 1) := by decide +kernel
theorem dX10_run_68 : decode cX10_run 68 = .ok (.if_icmp .ne 13, 3) := by decide +kernel
theorem dX10_run_71 : decode cX10_run 71 = .ok (.aload_n 0, 1) := by decide +kernel
theorem dX10_run_72 : decode cX10_run 72 = .ok (.getfield 40, 3) := by decide +kernel
theorem dX10_run_75 : decode cX10_run 75 = .ok (.bipush 114, 2) := by decide +kernel
theorem dX10_run_77 : decode cX10_run 77 = .ok (.iaload, 1) := by decide +kernel
theorem dX10_run_78 : decode cX10_run 78 = .ok (.goto 19, 3) := by decide +kernel
theorem dX10_run_81 : decode cX10_run 81 = .ok (.iload_n 3, 1) := by decide +kernel
theorem dX10_run_82 : decode cX10_run 82 = .ok (.iconst 2, 1) := by decide +kernel
theorem dX10_run_83 : decode cX10_run 83 = .ok (.if_icmp .ne 10, 3) := by decide +kernel
theorem dX10_run_86 : decode cX10_run 86 = .ok (.aload_n 0, 1) := by decide +kernel
theorem dX10_run_87 : decode cX10_run 87 = .ok (.getfield 200, 3) := by decide +kernel
theorem dX10_run_90 : decode cX10_run 90 = .ok (.goto 7, 3) := by decide +kernel
theorem dX10_run_93 : decode cX10_run 93 = .ok (.aload_n 0, 1) := by decide +kernel
theorem dX10_run_94 : decode cX10_run 94 = .ok (.getfield 216, 3) := by decide +kernel
theorem dX10_run_97 : decode cX10_run 97 = .ok (.ireturn, 1) := by decide +kernel
theorem dX10_noTask_0 : decode cX10_noTask 0 = .ok (.iload_n 1, 1) := by decide +kernel
theorem dX10_noTask_1 : decode cX10_noTask 1 = .ok (.iconst 0, 1) := by decide +kernel
theorem dX10_noTask_2 : decode cX10_noTask 2 = .ok (.aload_n 0, 1) := by decide +kernel
theorem dX10_noTask_3 : decode cX10_noTask 3 = .ok (.getfield 245, 3) := by decide +kernel
theorem dX10_noTask_6 : decode cX10_noTask 6 = .ok (.iconst 1, 1) := by decide +kernel
theorem dX10_noTask_7 : decode cX10_noTask 7 = .ok (.isub, 1) := by decide +kernel
theorem dX10_noTask_8 : decode cX10_noTask 8 = .ok (.invokestatic 104, 3) := by decide +kernel
theorem dX10_noTask_11 : decode cX10_noTask 11 = .ok (.ifCond .ne 7, 3) := by decide +kernel
theorem dX10_noTask_14 : decode cX10_noTask 14 = .ok (.iconst 1, 1) := by decide +kernel
theorem dX10_noTask_15 : decode cX10_noTask 15 = .ok (.goto 4, 3) := by decide +kernel
theorem dX10_noTask_18 : decode cX10_noTask 18 = .ok (.iconst 0, 1) := by decide +kernel
theorem dX10_noTask_19 : decode cX10_noTask 19 = .ok (.ireturn, 1) := by decide +kernel
theorem dX10_noLearner_0 : decode cX10_noLearner 0 = .ok (.iload_n 0, 1) := by decide +kernel
theorem dX10_noLearner_1 : decode cX10_noLearner 1 = .ok (.iconst 0, 1) := by decide +kernel
theorem dX10_noLearner_2 : decode cX10_noLearner 2 = .ok (.bipush 7, 2) := by decide +kernel
theorem dX10_noLearner_4 : decode cX10_noLearner 4 = .ok (.invokestatic 104, 3) := by decide +kernel
theorem dX10_noLearner_7 : decode cX10_noLearner 7 = .ok (.ifCond .ne 7, 3) := by decide +kernel
theorem dX10_noLearner_10 : decode cX10_noLearner 10 = .ok (.iconst 1, 1) := by decide +kernel
theorem dX10_noLearner_11 : decode cX10_noLearner 11 = .ok (.goto 4, 3) := by decide +kernel
theorem dX10_noLearner_14 : decode cX10_noLearner 14 = .ok (.iconst 0, 1) := by decide +kernel
theorem dX10_noLearner_15 : decode cX10_noLearner 15 = .ok (.ireturn, 1) := by decide +kernel
theorem dX10_task_0 : decode cX10_task 0 = .ok (.aload_n 0, 1) := by decide +kernel
theorem dX10_task_1 : decode cX10_task 1 = .ok (.iconst 0, 1) := by decide +kernel
theorem dX10_task_2 : decode cX10_task 2 = .ok (.putfield 79, 3) := by decide +kernel
theorem dX10_task_5 : decode cX10_task 5 = .ok (.aload_n 0, 1) := by decide +kernel
theorem dX10_task_6 : decode cX10_task 6 = .ok (.iload_n 1, 1) := by decide +kernel
theorem dX10_task_7 : decode cX10_task 7 = .ok (.iconst 0, 1) := by decide +kernel
theorem dX10_task_8 : decode cX10_task 8 = .ok (.sipush 255, 3) := by decide +kernel
theorem dX10_task_11 : decode cX10_task 11 = .ok (.invokestatic 104, 3) := by decide +kernel
theorem dX10_task_14 : decode cX10_task 14 = .ok (.ifCond .eq 14, 3) := by decide +kernel
theorem dX10_task_17 : decode cX10_task 17 = .ok (.iload_n 2, 1) := by decide +kernel
theorem dX10_task_18 : decode cX10_task 18 = .ok (.iconst 0, 1) := by decide +kernel
theorem dX10_task_19 : decode cX10_task 19 = .ok (.sipush 255, 3) := by decide +kernel
theorem dX10_task_22 : decode cX10_task 22 = .ok (.invokestatic 104, 3) := by decide +kernel
theorem dX10_task_25 : decode cX10_task 25 = .ok (.ifCond .ne 7, 3) := by decide +kernel
theorem dX10_task_28 : decode cX10_task 28 = .ok (.iconst 1, 1) := by decide +kernel
theorem dX10_task_29 : decode cX10_task 29 = .ok (.goto 4, 3) := by decide +kernel
theorem dX10_task_32 : decode cX10_task 32 = .ok (.iconst 0, 1) := by decide +kernel
theorem dX10_task_33 : decode cX10_task 33 = .ok (.iconst 1, 1) := by decide +kernel
theorem dX10_task_34 : decode cX10_task 34 = .ok (.invokevirtual 180, 3) := by decide +kernel
theorem dX10_task_37 : decode cX10_task 37 = .ok (.ifCond .ne 25, 3) := by decide +kernel
theorem dX10_task_40 : decode cX10_task 40 = .ok (.aload_n 0, 1) := by decide +kernel
theorem dX10_task_41 : decode cX10_task 41 = .ok (.aload_n 0, 1) := by decide +kernel
theorem dX10_task_42 : decode cX10_task 42 = .ok (.getfield 245, 3) := by decide +kernel
theorem dX10_task_45 : decode cX10_task 45 = .ok (.bipush 10, 2) := by decide +kernel
theorem dX10_task_47 : decode cX10_task 47 = .ok (.if_icmp .ne 7, 3) := by decide +kernel
theorem dX10_task_50 : decode cX10_task 50 = .ok (.iconst 1, 1) := by decide +kernel
theorem dX10_task_51 : decode cX10_task 51 = .ok (.goto 4, 3) := by decide +kernel
theorem dX10_task_54 : decode cX10_task 54 = .ok (.iconst 0, 1) := by decide +kernel
theorem dX10_task_55 : decode cX10_task 55 = .ok (.iconst 2, 1) := by decide +kernel
theorem dX10_task_56 : decode cX10_task 56 = .ok (.invokevirtual 180, 3) := by decide +kernel
theorem dX10_task_59 : decode cX10_task 59 = .ok (.ifCond .eq 5, 3) := by decide +kernel
theorem dX10_task_62 : decode cX10_task 62 = .ok (.iconst 0, 1) := by decide +kernel
theorem dX10_task_63 : decode cX10_task 63 = .ok (.ireturn, 1) := by decide +kernel
theorem dX10_task_64 : decode cX10_task 64 = .ok (.aload_n 0, 1) := by decide +kernel
theorem dX10_task_65 : decode cX10_task 65 = .ok (.getfield 43, 3) := by decide +kernel
theorem dX10_task_68 : decode cX10_task 68 = .ok (.aload_n 0, 1) := by decide +kernel
theorem dX10_task_69 : decode cX10_task 69 = .ok (.getfield 245, 3) := by decide +kernel
theorem dX10_task_72 : decode cX10_task 72 = .ok (.iload_n 1, 1) := by decide +kernel
theorem dX10_task_73 : decode cX10_task 73 = .ok (.iastore, 1) := by decide +kernel
theorem dX10_task_74 : decode cX10_task 74 = .ok (.aload_n 0, 1) := by decide +kernel
theorem dX10_task_75 : decode cX10_task 75 = .ok (.getfield 46, 3) := by decide +kernel
theorem dX10_task_78 : decode cX10_task 78 = .ok (.aload_n 0, 1) := by decide +kernel
theorem dX10_task_79 : decode cX10_task 79 = .ok (.getfield 245, 3) := by decide +kernel
theorem dX10_task_82 : decode cX10_task 82 = .ok (.iload_n 2, 1) := by decide +kernel
theorem dX10_task_83 : decode cX10_task 83 = .ok (.iastore, 1) := by decide +kernel
theorem dX10_task_84 : decode cX10_task 84 = .ok (.aload_n 0, 1) := by decide +kernel
theorem dX10_task_85 : decode cX10_task 85 = .ok (.dup, 1) := by decide +kernel
theorem dX10_task_86 : decode cX10_task 86 = .ok (.getfield 245, 3) := by decide +kernel
theorem dX10_task_89 : decode cX10_task 89 = .ok (.iconst 1, 1) := by decide +kernel
theorem dX10_task_90 : decode cX10_task 90 = .ok (.iadd, 1) := by decide +kernel
theorem dX10_task_91 : decode cX10_task 91 = .ok (.putfield 245, 3) := by decide +kernel
theorem dX10_task_94 : decode cX10_task 94 = .ok (.aload_n 0, 1) := by decide +kernel
theorem dX10_task_95 : decode cX10_task 95 = .ok (.getfield 245, 3) := by decide +kernel
theorem dX10_task_98 : decode cX10_task 98 = .ok (.iconst 1, 1) := by decide +kernel
theorem dX10_task_99 : decode cX10_task 99 = .ok (.isub, 1) := by decide +kernel
theorem dX10_task_100 : decode cX10_task 100 = .ok (.ireturn, 1) := by decide +kernel
theorem dX10_world_0 : decode cX10_world 0 = .ok (.aload_n 0, 1) := by decide +kernel
theorem dX10_world_1 : decode cX10_world 1 = .ok (.iconst 0, 1) := by decide +kernel
theorem dX10_world_2 : decode cX10_world 2 = .ok (.putfield 79, 3) := by decide +kernel
theorem dX10_world_5 : decode cX10_world 5 = .ok (.aload_n 0, 1) := by decide +kernel
theorem dX10_world_6 : decode cX10_world 6 = .ok (.aload_n 0, 1) := by decide +kernel
theorem dX10_world_7 : decode cX10_world 7 = .ok (.iload_n 1, 1) := by decide +kernel
theorem dX10_world_8 : decode cX10_world 8 = .ok (.invokevirtual 248, 3) := by decide +kernel
theorem dX10_world_11 : decode cX10_world 11 = .ok (.iconst 1, 1) := by decide +kernel
theorem dX10_world_12 : decode cX10_world 12 = .ok (.invokevirtual 180, 3) := by decide +kernel
theorem dX10_world_15 : decode cX10_world 15 = .ok (.ifCond .eq 5, 3) := by decide +kernel
theorem dX10_world_18 : decode cX10_world 18 = .ok (.iconst 0, 1) := by decide +kernel
theorem dX10_world_19 : decode cX10_world 19 = .ok (.ireturn, 1) := by decide +kernel
theorem dX10_world_20 : decode cX10_world 20 = .ok (.aload_n 0, 1) := by decide +kernel
theorem dX10_world_21 : decode cX10_world 21 = .ok (.getfield 49, 3) := by decide +kernel
theorem dX10_world_24 : decode cX10_world 24 = .ok (.iload_n 1, 1) := by decide +kernel
theorem dX10_world_25 : decode cX10_world 25 = .ok (.iaload, 1) := by decide +kernel
theorem dX10_world_26 : decode cX10_world 26 = .ok (.bipush 6, 2) := by decide +kernel
theorem dX10_world_28 : decode cX10_world 28 = .ok (.if_icmp .ne 5, 3) := by decide +kernel
theorem dX10_world_31 : decode cX10_world 31 = .ok (.iconst (-1), 1) := by decide +kernel
theorem dX10_world_32 : decode cX10_world 32 = .ok (.ireturn, 1) := by decide +kernel
theorem dX10_world_33 : decode cX10_world 33 = .ok (.iconst 3, 1) := by decide +kernel
theorem dX10_world_34 : decode cX10_world 34 = .ok (.bipush 6, 2) := by decide +kernel
theorem dX10_world_36 : decode cX10_world 36 = .ok (.iload_n 1, 1) := by decide +kernel
theorem dX10_world_37 : decode cX10_world 37 = .ok (.imul, 1) := by decide +kernel
theorem dX10_world_38 : decode cX10_world 38 = .ok (.aload_n 0, 1) := by decide +kernel
theorem dX10_world_39 : decode cX10_world 39 = .ok (.getfield 49, 3) := by decide +kernel
theorem dX10_world_42 : decode cX10_world 42 = .ok (.iload_n 1, 1) := by decide +kernel
theorem dX10_world_43 : decode cX10_world 43 = .ok (.iaload, 1) := by decide +kernel
theorem dX10_world_44 : decode cX10_world 44 = .ok (.iadd, 1) := by decide +kernel
theorem dX10_world_45 : decode cX10_world 45 = .ok (.imul, 1) := by decide +kernel
theorem dX10_world_46 : decode cX10_world 46 = .ok (.istore 5, 2) := by decide +kernel
theorem dX10_world_48 : decode cX10_world 48 = .ok (.aload_n 0, 1) := by decide +kernel
theorem dX10_world_49 : decode cX10_world 49 = .ok (.getfield 52, 3) := by decide +kernel
theorem dX10_world_52 : decode cX10_world 52 = .ok (.iload 5, 2) := by decide +kernel
theorem dX10_world_54 : decode cX10_world 54 = .ok (.iload_n 2, 1) := by decide +kernel
theorem dX10_world_55 : decode cX10_world 55 = .ok (.iastore, 1) := by decide +kernel
theorem dX10_world_56 : decode cX10_world 56 = .ok (.aload_n 0, 1) := by decide +kernel
theorem dX10_world_57 : decode cX10_world 57 = .ok (.getfield 52, 3) := by decide +kernel
theorem dX10_world_60 : decode cX10_world 60 = .ok (.iload 5, 2) := by decide +kernel
theorem dX10_world_62 : decode cX10_world 62 = .ok (.iconst 1, 1) := by decide +kernel
theorem dX10_world_63 : decode cX10_world 63 = .ok (.iadd, 1) := by decide +kernel
theorem dX10_world_64 : decode cX10_world 64 = .ok (.iload_n 3, 1) := by decide +kernel
theorem dX10_world_65 : decode cX10_world 65 = .ok (.iastore, 1) := by decide +kernel
theorem dX10_world_66 : decode cX10_world 66 = .ok (.aload_n 0, 1) := by decide +kernel
theorem dX10_world_67 : decode cX10_world 67 = .ok (.getfield 52, 3) := by decide +kernel
theorem dX10_world_70 : decode cX10_world 70 = .ok (.iload 5, 2) := by decide +kernel
theorem dX10_world_72 : decode cX10_world 72 = .ok (.iconst 2, 1) := by decide +kernel
