theorem dX10_init_0 : decode cX10_init 0 = .ok (.aload_n 0, 1) := by decide +kernel
theorem dX10_init_1 : decode cX10_init 1 = .ok (.invokespecial 1, 3) := by decide +kernel
theorem dX10_init_4 : decode cX10_init 4 = .ok (.aload_n 0, 1) := by decide +kernel
theorem dX10_init_5 : decode cX10_init 5 = .ok (.sipush 400, 3) := by decide +kernel
theorem dX10_init_8 : decode cX10_init 8 = .ok (.newarray .byte, 2) := by decide +kernel
theorem dX10_init_10 : decode cX10_init 10 = .ok (.putfield 9, 3) := by decide +kernel
theorem dX10_init_13 : decode cX10_init 13 = .ok (.aload_n 0, 1) := by decide +kernel
theorem dX10_init_14 : decode cX10_init 14 = .ok (.iconst (-1), 1) := by decide +kernel
theorem dX10_init_15 : decode cX10_init 15 = .ok (.putfield 13, 3) := by decide +kernel
theorem dX10_init_18 : decode cX10_init 18 = .ok (.aload_n 0, 1) := by decide +kernel
theorem dX10_init_19 : decode cX10_init 19 = .ok (.iconst 5, 1) := by decide +kernel
theorem dX10_init_20 : decode cX10_init 20 = .ok (.newarray .int, 2) := by decide +kernel
theorem dX10_init_22 : decode cX10_init 22 = .ok (.putfield 17, 3) := by decide +kernel
theorem dX10_init_25 : decode cX10_init 25 = .ok (.aload_n 0, 1) := by decide +kernel
theorem dX10_init_26 : decode cX10_init 26 = .ok (.bipush 120, 2) := by decide +kernel
theorem dX10_init_28 : decode cX10_init 28 = .ok (.newarray .int, 2) := by decide +kernel
theorem dX10_init_30 : decode cX10_init 30 = .ok (.putfield 21, 3) := by decide +kernel
theorem dX10_init_33 : decode cX10_init 33 = .ok (.aload_n 0, 1) := by decide +kernel
theorem dX10_init_34 : decode cX10_init 34 = .ok (.bipush 120, 2) := by decide +kernel
theorem dX10_init_36 : decode cX10_init 36 = .ok (.newarray .int, 2) := by decide +kernel
theorem dX10_init_38 : decode cX10_init 38 = .ok (.putfield 24, 3) := by decide +kernel
theorem dX10_init_41 : decode cX10_init 41 = .ok (.aload_n 0, 1) := by decide +kernel
theorem dX10_init_42 : decode cX10_init 42 = .ok (.bipush 120, 2) := by decide +kernel
theorem dX10_init_44 : decode cX10_init 44 = .ok (.newarray .int, 2) := by decide +kernel
theorem dX10_init_46 : decode cX10_init 46 = .ok (.putfield 27, 3) := by decide +kernel
theorem dX10_init_49 : decode cX10_init 49 = .ok (.aload_n 0, 1) := by decide +kernel
theorem dX10_init_50 : decode cX10_init 50 = .ok (.bipush 120, 2) := by decide +kernel
theorem dX10_init_52 : decode cX10_init 52 = .ok (.newarray .boolean, 2) := by decide +kernel
theorem dX10_init_54 : decode cX10_init 54 = .ok (.putfield 30, 3) := by decide +kernel
theorem dX10_init_57 : decode cX10_init 57 = .ok (.aload_n 0, 1) := by decide +kernel
theorem dX10_init_58 : decode cX10_init 58 = .ok (.bipush 120, 2) := by decide +kernel
theorem dX10_init_60 : decode cX10_init 60 = .ok (.newarray .int, 2) := by decide +kernel
theorem dX10_init_62 : decode cX10_init 62 = .ok (.putfield 34, 3) := by decide +kernel
theorem dX10_init_65 : decode cX10_init 65 = .ok (.aload_n 0, 1) := by decide +kernel
theorem dX10_init_66 : decode cX10_init 66 = .ok (.bipush 121, 2) := by decide +kernel
theorem dX10_init_68 : decode cX10_init 68 = .ok (.newarray .boolean, 2) := by decide +kernel
theorem dX10_init_70 : decode cX10_init 70 = .ok (.putfield 37, 3) := by decide +kernel
theorem dX10_init_73 : decode cX10_init 73 = .ok (.aload_n 0, 1) := by decide +kernel
theorem dX10_init_74 : decode cX10_init 74 = .ok (.sipush 128, 3) := by decide +kernel
theorem dX10_init_77 : decode cX10_init 77 = .ok (.newarray .int, 2) := by decide +kernel
theorem dX10_init_79 : decode cX10_init 79 = .ok (.putfield 40, 3) := by decide +kernel
theorem dX10_init_82 : decode cX10_init 82 = .ok (.aload_n 0, 1) := by decide +kernel
theorem dX10_init_83 : decode cX10_init 83 = .ok (.bipush 10, 2) := by decide +kernel
theorem dX10_init_85 : decode cX10_init 85 = .ok (.newarray .int, 2) := by decide +kernel
theorem dX10_init_87 : decode cX10_init 87 = .ok (.putfield 43, 3) := by decide +kernel
theorem dX10_init_90 : decode cX10_init 90 = .ok (.aload_n 0, 1) := by decide +kernel
theorem dX10_init_91 : decode cX10_init 91 = .ok (.bipush 10, 2) := by decide +kernel
theorem dX10_init_93 : decode cX10_init 93 = .ok (.newarray .int, 2) := by decide +kernel
theorem dX10_init_95 : decode cX10_init 95 = .ok (.putfield 46, 3) := by decide +kernel
theorem dX10_init_98 : decode cX10_init 98 = .ok (.aload_n 0, 1) := by decide +kernel
theorem dX10_init_99 : decode cX10_init 99 = .ok (.bipush 10, 2) := by decide +kernel
theorem dX10_init_101 : decode cX10_init 101 = .ok (.newarray .int, 2) := by decide +kernel
theorem dX10_init_103 : decode cX10_init 103 = .ok (.putfield 49, 3) := by decide +kernel
theorem dX10_init_106 : decode cX10_init 106 = .ok (.aload_n 0, 1) := by decide +kernel
theorem dX10_init_107 : decode cX10_init 107 = .ok (.sipush 180, 3) := by decide +kernel
theorem dX10_init_110 : decode cX10_init 110 = .ok (.newarray .int, 2) := by decide +kernel
theorem dX10_init_112 : decode cX10_init 112 = .ok (.putfield 52, 3) := by decide +kernel
theorem dX10_init_115 : decode cX10_init 115 = .ok (.aload_n 0, 1) := by decide +kernel
theorem dX10_init_116 : decode cX10_init 116 = .ok (.bipush 10, 2) := by decide +kernel
theorem dX10_init_118 : decode cX10_init 118 = .ok (.newarray .int, 2) := by decide +kernel
theorem dX10_init_120 : decode cX10_init 120 = .ok (.putfield 55, 3) := by decide +kernel
theorem dX10_init_123 : decode cX10_init 123 = .ok (.aload_n 0, 1) := by decide +kernel
theorem dX10_init_124 : decode cX10_init 124 = .ok (.bipush 100, 2) := by decide +kernel
theorem dX10_init_126 : decode cX10_init 126 = .ok (.newarray .int, 2) := by decide +kernel
theorem dX10_init_128 : decode cX10_init 128 = .ok (.putfield 58, 3) := by decide +kernel
theorem dX10_init_131 : decode cX10_init 131 = .ok (.aload_n 0, 1) := by decide +kernel
theorem dX10_init_132 : decode cX10_init 132 = .ok (.sipush 12000, 3) := by decide +kernel
theorem dX10_init_135 : decode cX10_init 135 = .ok (.newarray .int, 2) := by decide +kernel
theorem dX10_init_137 : decode cX10_init 137 = .ok (.putfield 61, 3) := by decide +kernel
theorem dX10_init_140 : decode cX10_init 140 = .ok (.aload_n 0, 1) := by decide +kernel
theorem dX10_init_141 : decode cX10_init 141 = .ok (.bipush 80, 2) := by decide +kernel
theorem dX10_init_143 : decode cX10_init 143 = .ok (.newarray .int, 2) := by decide +kernel
theorem dX10_init_145 : decode cX10_init 145 = .ok (.putfield 64, 3) := by decide +kernel
theorem dX10_init_148 : decode cX10_init 148 = .ok (.aload_n 0, 1) := by decide +kernel
theorem dX10_init_149 : decode cX10_init 149 = .ok (.sipush 9600, 3) := by decide +kernel
theorem dX10_init_152 : decode cX10_init 152 = .ok (.newarray .int, 2) := by decide +kernel
theorem dX10_init_154 : decode cX10_init 154 = .ok (.putfield 67, 3) := by decide +kernel
theorem dX10_init_157 : decode cX10_init 157 = .ok (.aload_n 0, 1) := by decide +kernel
theorem dX10_init_158 : decode cX10_init 158 = .ok (.bipush 64, 2) := by decide +kernel
theorem dX10_init_160 : decode cX10_init 160 = .ok (.newarray .int, 2) := by decide +kernel
theorem dX10_init_162 : decode cX10_init 162 = .ok (.putfield 70, 3) := by decide +kernel
theorem dX10_init_165 : decode cX10_init 165 = .ok (.aload_n 0, 1) := by decide +kernel
theorem dX10_init_166 : decode cX10_init 166 = .ok (.sipush 256, 3) := by decide +kernel
theorem dX10_init_169 : decode cX10_init 169 = .ok (.newarray .int, 2) := by decide +kernel
theorem dX10_init_171 : decode cX10_init 171 = .ok (.putfield 73, 3) := by decide +kernel
theorem dX10_init_174 : decode cX10_init 174 = .ok (.aload_n 0, 1) := by decide +kernel
theorem dX10_init_175 : decode cX10_init 175 = .ok (.sipush 14641, 3) := by decide +kernel
theorem dX10_init_178 : decode cX10_init 178 = .ok (.newarray .int, 2) := by decide +kernel
theorem dX10_init_180 : decode cX10_init 180 = .ok (.putfield 76, 3) := by decide +kernel
theorem dX10_init_183 : decode cX10_init 183 = .ok (.return_, 1) := by decide +kernel
theorem dX10_thrown_0 : decode cX10_thrown 0 = .ok (.aload_n 0, 1) := by decide +kernel
theorem dX10_thrown_1 : decode cX10_thrown 1 = .ok (.getfield 79, 3) := by decide +kernel
theorem dX10_thrown_4 : decode cX10_thrown 4 = .ok (.ireturn, 1) := by decide +kernel
theorem dX10_throwsIf_0 : decode cX10_throwsIf 0 = .ok (.iload_n 1, 1) := by decide +kernel
theorem dX10_throwsIf_1 : decode cX10_throwsIf 1 = .ok (.ifCond .eq 8, 3) := by decide +kernel
theorem dX10_throwsIf_4 : decode cX10_throwsIf 4 = .ok (.aload_n 0, 1) := by decide +kernel
theorem dX10_throwsIf_5 : decode cX10_throwsIf 5 = .ok (.iload_n 2, 1) := by decide +kernel
theorem dX10_throwsIf_6 : decode cX10_throwsIf 6 = .ok (.putfield 79, 3) := by decide +kernel
theorem dX10_throwsIf_9 : decode cX10_throwsIf 9 = .ok (.iload_n 1, 1) := by decide +kernel
theorem dX10_throwsIf_10 : decode cX10_throwsIf 10 = .ok (.ireturn, 1) := by decide +kernel
theorem dX10_in_0 : decode cX10_in 0 = .ok (.iload_n 0, 1) := by decide +kernel
theorem dX10_in_1 : decode cX10_in 1 = .ok (.iload_n 1, 1) := by decide +kernel
theorem dX10_in_2 : decode cX10_in 2 = .ok (.if_icmp .lt 12, 3) := by decide +kernel
theorem dX10_in_5 : decode cX10_in 5 = .ok (.iload_n 0, 1) := by decide +kernel
theorem dX10_in_6 : decode cX10_in 6 = .ok (.iload_n 2, 1) := by decide +kernel
theorem dX10_in_7 : decode cX10_in 7 = .ok (.if_icmp .gt 7, 3) := by decide +kernel
theorem dX10_in_10 : decode cX10_in 10 = .ok (.iconst 1, 1) := by decide +kernel
theorem dX10_in_11 : decode cX10_in 11 = .ok (.goto 4, 3) := by decide +kernel
theorem dX10_in_14 : decode cX10_in 14 = .ok (.iconst 0, 1) := by decide +kernel
theorem dX10_in_15 : decode cX10_in 15 = .ok (.ireturn, 1) := by decide +kernel
theorem dX10_feed_0 : decode cX10_feed 0 = .ok (.aload_n 0, 1) := by decide +kernel
theorem dX10_feed_1 : decode cX10_feed 1 = .ok (.iconst 0, 1) := by decide +kernel
theorem dX10_feed_2 : decode cX10_feed 2 = .ok (.putfield 79, 3) := by decide +kernel
theorem dX10_feed_5 : decode cX10_feed 5 = .ok (.aload_n 0, 1) := by decide +kernel
theorem dX10_feed_6 : decode cX10_feed 6 = .ok (.getfield 82, 3) := by decide +kernel
theorem dX10_feed_9 : decode cX10_feed 9 = .ok (.bipush 20, 2) := by decide +kernel
theorem dX10_feed_11 : decode cX10_feed 11 = .ok (.iadd, 1) := by decide +kernel
theorem dX10_feed_12 : decode cX10_feed 12 = .ok (.sipush 400, 3) := by decide +kernel
theorem dX10_feed_15 : decode cX10_feed 15 = .ok (.if_icmp .le 5, 3) := by decide +kernel
theorem dX10_feed_18 : decode cX10_feed 18 = .ok (.iconst (-1), 1) := by decide +kernel
theorem dX10_feed_19 : decode cX10_feed 19 = .ok (.ireturn, 1) := by decide +kernel
theorem dX10_feed_20 : decode cX10_feed 20 = .ok (.aload_n 0, 1) := by decide +kernel
theorem dX10_feed_21 : decode cX10_feed 21 = .ok (.getfield 17, 3) := by decide +kernel
theorem dX10_feed_24 : decode cX10_feed 24 = .ok (.iconst 0, 1) := by decide +kernel
theorem dX10_feed_25 : decode cX10_feed 25 = .ok (.iload_n 1, 1) := by decide +kernel
theorem dX10_feed_26 : decode cX10_feed 26 = .ok (.iastore, 1) := by decide +kernel
theorem dX10_feed_27 : decode cX10_feed 27 = .ok (.aload_n 0, 1) := by decide +kernel
theorem dX10_feed_28 : decode cX10_feed 28 = .ok (.getfield 17, 3) := by decide +kernel
theorem dX10_feed_31 : decode cX10_feed 31 = .ok (.iconst 1, 1) := by decide +kernel
theorem dX10_feed_32 : decode cX10_feed 32 = .ok (.iload_n 2, 1) := by decide +kernel
theorem dX10_feed_33 : decode cX10_feed 33 = .ok (.iastore, 1) := by decide +kernel
theorem dX10_feed_34 : decode cX10_feed 34 = .ok (.aload_n 0, 1) := by decide +kernel
theorem dX10_feed_35 : decode cX10_feed 35 = .ok (.getfield 17, 3) := by decide +kernel
theorem dX10_feed_38 : decode cX10_feed 38 = .ok (.iconst 2, 1) := by decide +kernel
theorem dX10_feed_39 : decode cX10_feed 39 = .ok (.iload_n 3, 1) := by decide +kernel
theorem dX10_feed_40 : decode cX10_feed 40 = .ok (.iastore, 1) := by decide +kernel
theorem dX10_feed_41 : decode cX10_feed 41 = .ok (.aload_n 0, 1) := by decide +kernel
theorem dX10_feed_42 : decode cX10_feed 42 = .ok (.getfield 17, 3) := by decide +kernel
theorem dX10_feed_45 : decode cX10_feed 45 = .ok (.iconst 3, 1) := by decide +kernel
theorem dX10_feed_46 : decode cX10_feed 46 = .ok (.iload 4, 2) := by decide +kernel
theorem dX10_feed_48 : decode cX10_feed 48 = .ok (.iastore, 1) := by decide +kernel
theorem dX10_feed_49 : decode cX10_feed 49 = .ok (.aload_n 0, 1) := by decide +kernel
theorem dX10_feed_50 : decode cX10_feed 50 = .ok (.getfield 17, 3) := by decide +kernel
theorem dX10_feed_53 : decode cX10_feed 53 = .ok (.iconst 4, 1) := by decide +kernel
theorem dX10_feed_54 : decode cX10_feed 54 = .ok (.iload 5, 2) := by decide +kernel
theorem dX10_feed_56 : decode cX10_feed 56 = .ok (.iastore, 1) := by decide +kernel
theorem dX10_feed_57 : decode cX10_feed 57 = .ok (.iconst 0, 1) := by decide +kernel
theorem dX10_feed_58 : decode cX10_feed 58 = .ok (.istore 6, 2) := by decide +kernel
theorem dX10_feed_60 : decode cX10_feed 60 = .ok (.iload 6, 2) := by decide +kernel
theorem dX10_feed_62 : decode cX10_feed 62 = .ok (.bipush 20, 2) := by decide +kernel
theorem dX10_feed_64 : decode cX10_feed 64 = .ok (.if_icmp .ge 42, 3) := by decide +kernel
theorem dX10_feed_67 : decode cX10_feed 67 = .ok (.aload_n 0, 1) := by decide +kernel
theorem dX10_feed_68 : decode cX10_feed 68 = .ok (.getfield 9, 3) := by decide +kernel
theorem dX10_feed_71 : decode cX10_feed 71 = .ok (.aload_n 0, 1) := by decide +kernel
theorem dX10_feed_72 : decode cX10_feed 72 = .ok (.getfield 82, 3) := by decide +kernel
theorem dX10_feed_75 : decode cX10_feed 75 = .ok (.iload 6, 2) := by decide +kernel
theorem dX10_feed_77 : decode cX10_feed 77 = .ok (.iadd, 1) := by decide +kernel
theorem dX10_feed_78 : decode cX10_feed 78 = .ok (.aload_n 0, 1) := by decide +kernel
theorem dX10_feed_79 : decode cX10_feed 79 = .ok (.getfield 17, 3) := by decide +kernel
theorem dX10_feed_82 : decode cX10_feed 82 = .ok (.iload 6, 2) := by decide +kernel
theorem dX10_feed_84 : decode cX10_feed 84 = .ok (.iconst 4, 1) := by decide +kernel
theorem dX10_feed_85 : decode cX10_feed 85 = .ok (.idiv, 1) := by decide +kernel
theorem dX10_feed_86 : decode cX10_feed 86 = .ok (.iaload, 1) := by decide +kernel
theorem dX10_feed_87 : decode cX10_feed 87 = .ok (.bipush 24, 2) := by decide +kernel
theorem dX10_feed_89 : decode cX10_feed 89 = .ok (.bipush 8, 2) := by decide +kernel
theorem dX10_feed_91 : decode cX10_feed 91 = .ok (.iload 6, 2) := by decide +kernel
theorem dX10_feed_93 : decode cX10_feed 93 = .ok (.iconst 4, 1) := by decide +kernel
theorem dX10_feed_94 : decode cX10_feed 94 = .ok (.irem, 1) := by decide +kernel
theorem dX10_feed_95 : decode cX10_feed 95 = .ok (.imul, 1) := by decide +kernel
theorem dX10_feed_96 : decode cX10_feed 96 = .ok (.isub, 1) := by decide +kernel
theorem dX10_feed_97 : decode cX10_feed 97 = .ok (.ishr, 1) := by decide +kernel
theorem dX10_feed_98 : decode cX10_feed 98 = .ok (.i2b, 1) := by decide +kernel
theorem dX10_feed_99 : decode cX10_feed 99 = .ok (.bastore, 1) := by decide +kernel
theorem dX10_feed_100 : decode cX10_feed 100 = .ok (.iinc 6 1, 3) := by decide +kernel
theorem dX10_feed_103 : decode cX10_feed 103 = .ok (.goto (-43), 3) := by decide +kernel
theorem dX10_feed_106 : decode cX10_feed 106 = .ok (.aload_n 0, 1) := by decide +kernel
theorem dX10_feed_107 : decode cX10_feed 107 = .ok (.dup, 1) := by decide +kernel
theorem dX10_feed_108 : decode cX10_feed 108 = .ok (.getfield 82, 3) := by decide +kernel
theorem dX10_feed_111 : decode cX10_feed 111 = .ok (.bipush 20, 2) := by decide +kernel
theorem dX10_feed_113 : decode cX10_feed 113 = .ok (.iadd, 1) := by decide +kernel
theorem dX10_feed_114 : decode cX10_feed 114 = .ok (.putfield 82, 3) := by decide +kernel
theorem dX10_feed_117 : decode cX10_feed 117 = .ok (.aload_n 0, 1) := by decide +kernel
theorem dX10_feed_118 : decode cX10_feed 118 = .ok (.getfield 82, 3) := by decide +kernel
theorem dX10_feed_121 : decode cX10_feed 121 = .ok (.ireturn, 1) := by decide +kernel
theorem dX10_end_0 : decode cX10_end 0 = .ok (.aload_n 0, 1) := by decide +kernel
theorem dX10_end_1 : decode cX10_end 1 = .ok (.iconst 0, 1) := by decide +kernel
theorem dX10_end_2 : decode cX10_end 2 = .ok (.putfield 79, 3) := by decide +kernel
theorem dX10_end_5 : decode cX10_end 5 = .ok (.iload_n 1, 1) := by decide +kernel
theorem dX10_end_6 : decode cX10_end 6 = .ok (.ifCond .lt 11, 3) := by decide +kernel
theorem dX10_end_9 : decode cX10_end 9 = .ok (.iload_n 1, 1) := by decide +kernel
theorem dX10_end_10 : decode cX10_end 10 = .ok (.aload_n 0, 1) := by decide +kernel
theorem dX10_end_11 : decode cX10_end 11 = .ok (.getfield 82, 3) := by decide +kernel
theorem dX10_end_14 : decode cX10_end 14 = .ok (.if_icmp .le 5, 3) := by decide +kernel
theorem dX10_end_17 : decode cX10_end 17 = .ok (.iconst 0, 1) := by decide +kernel
theorem dX10_end_18 : decode cX10_end 18 = .ok (.ireturn, 1) := by decide +kernel
theorem dX10_end_19 : decode cX10_end 19 = .ok (.aload_n 0, 1) := by decide +kernel
theorem dX10_end_20 : decode cX10_end 20 = .ok (.iload_n 1, 1) := by decide +kernel
theorem dX10_end_21 : decode cX10_end 21 = .ok (.putfield 82, 3) := by decide +kernel
theorem dX10_end_24 : decode cX10_end 24 = .ok (.iconst 1, 1) := by decide +kernel
theorem dX10_end_25 : decode cX10_end 25 = .ok (.ireturn, 1) := by decide +kernel
theorem dX10_isAt_0 : decode cX10_isAt 0 = .ok (.iload_n 1, 1) := by decide +kernel
theorem dX10_isAt_1 : decode cX10_isAt 1 = .ok (.aload_n 0, 1) := by decide +kernel
theorem dX10_isAt_2 : decode cX10_isAt 2 = .ok (.getfield 85, 3) := by decide +kernel
theorem dX10_isAt_5 : decode cX10_isAt 5 = .ok (.if_icmp .ge 27, 3) := by decide +kernel
theorem dX10_isAt_8 : decode cX10_isAt 8 = .ok (.aload_n 0, 1) := by decide +kernel
theorem dX10_isAt_9 : decode cX10_isAt 9 = .ok (.getfield 9, 3) := by decide +kernel
theorem dX10_isAt_12 : decode cX10_isAt 12 = .ok (.iload_n 1, 1) := by decide +kernel
theorem dX10_isAt_13 : decode cX10_isAt 13 = .ok (.baload, 1) := by decide +kernel
theorem dX10_isAt_14 : decode cX10_isAt 14 = .ok (.iload_n 2, 1) := by decide +kernel
theorem dX10_isAt_15 : decode cX10_isAt 15 = .ok (.if_icmp .lt 17, 3) := by decide +kernel
theorem dX10_isAt_18 : decode cX10_isAt 18 = .ok (.aload_n 0, 1) := by decide +kernel
theorem dX10_isAt_19 : decode cX10_isAt 19 = .ok (.getfield 9, 3) := by decide +kernel
theorem dX10_isAt_22 : decode cX10_isAt 22 = .ok (.iload_n 1, 1) := by decide +kernel
theorem dX10_isAt_23 : decode cX10_isAt 23 = .ok (.baload, 1) := by decide +kernel
theorem dX10_isAt_24 : decode cX10_isAt 24 = .ok (.iload_n 3, 1) := by decide +kernel
theorem dX10_isAt_25 : decode cX10_isAt 25 = .ok (.if_icmp .gt 7, 3) := by decide +kernel
theorem dX10_isAt_28 : decode cX10_isAt 28 = .ok (.iconst 1, 1) := by decide +kernel
theorem dX10_isAt_29 : decode cX10_isAt 29 = .ok (.goto 4, 3) := by decide +kernel
theorem dX10_isAt_32 : decode cX10_isAt 32 = .ok (.iconst 0, 1) := by decide +kernel
theorem dX10_isAt_33 : decode cX10_isAt 33 = .ok (.ireturn, 1) := by decide +kernel
theorem dX10_isWord_0 : decode cX10_isWord 0 = .ok (.aload_n 0, 1) := by decide +kernel
theorem dX10_isWord_1 : decode cX10_isWord 1 = .ok (.getfield 88, 3) := by decide +kernel
theorem dX10_isWord_4 : decode cX10_isWord 4 = .ok (.aload_n 0, 1) := by decide +kernel
theorem dX10_isWord_5 : decode cX10_isWord 5 = .ok (.getfield 91, 3) := by decide +kernel
theorem dX10_isWord_8 : decode cX10_isWord 8 = .ok (.isub, 1) := by decide +kernel
theorem dX10_isWord_9 : decode cX10_isWord 9 = .ok (.aload_n 1, 1) := by decide +kernel
theorem dX10_isWord_10 : decode cX10_isWord 10 = .ok (.invokevirtual 94, 3) := by decide +kernel
theorem dX10_isWord_13 : decode cX10_isWord 13 = .ok (.if_icmp .ne 7, 3) := by decide +kernel
theorem dX10_isWord_16 : decode cX10_isWord 16 = .ok (.iconst 1, 1) := by decide +kernel
theorem dX10_isWord_17 : decode cX10_isWord 17 = .ok (.goto 4, 3) := by decide +kernel
theorem dX10_isWord_20 : decode cX10_isWord 20 = .ok (.iconst 0, 1) := by decide +kernel
theorem dX10_isWord_21 : decode cX10_isWord 21 = .ok (.istore_n 2, 1) := by decide +kernel
theorem dX10_isWord_22 : decode cX10_isWord 22 = .ok (.iconst 0, 1) := by decide +kernel
theorem dX10_isWord_23 : decode cX10_isWord 23 = .ok (.istore_n 3, 1) := by decide +kernel
theorem dX10_isWord_24 : decode cX10_isWord 24 = .ok (.iload_n 2, 1) := by decide +kernel
theorem dX10_isWord_25 : decode cX10_isWord 25 = .ok (.ifCond .eq 42, 3) := by decide +kernel
theorem dX10_isWord_28 : decode cX10_isWord 28 = .ok (.iload_n 3, 1) := by decide +kernel
theorem dX10_isWord_29 : decode cX10_isWord 29 = .ok (.aload_n 1, 1) := by decide +kernel
theorem dX10_isWord_30 : decode cX10_isWord 30 = .ok (.invokevirtual 94, 3) := by decide +kernel
theorem dX10_isWord_33 : decode cX10_isWord 33 = .ok (.if_icmp .ge 34, 3) := by decide +kernel
theorem dX10_isWord_36 : decode cX10_isWord 36 = .ok (.aload_n 0, 1) := by decide +kernel
theorem dX10_isWord_37 : decode cX10_isWord 37 = .ok (.getfield 9, 3) := by decide +kernel
theorem dX10_isWord_40 : decode cX10_isWord 40 = .ok (.aload_n 0, 1) := by decide +kernel
theorem dX10_isWord_41 : decode cX10_isWord 41 = .ok (.getfield 91, 3) := by decide +kernel
theorem dX10_isWord_44 : decode cX10_isWord 44 = .ok (.iload_n 3, 1) := by decide +kernel
theorem dX10_isWord_45 : decode cX10_isWord 45 = .ok (.iadd, 1) := by decide +kernel
theorem dX10_isWord_46 : decode cX10_isWord 46 = .ok (.baload, 1) := by decide +kernel
theorem dX10_isWord_47 : decode cX10_isWord 47 = .ok (.aload_n 1, 1) := by decide +kernel
theorem dX10_isWord_48 : decode cX10_isWord 48 = .ok (.iload_n 3, 1) := by decide +kernel
theorem dX10_isWord_49 : decode cX10_isWord 49 = .ok (.invokevirtual 100, 3) := by decide +kernel
theorem dX10_isWord_52 : decode cX10_isWord 52 = .ok (.if_icmp .ne 7, 3) := by decide +kernel
theorem dX10_isWord_55 : decode cX10_isWord 55 = .ok (.iconst 1, 1) := by decide +kernel
theorem dX10_isWord_56 : decode cX10_isWord 56 = .ok (.goto 4, 3) := by decide +kernel
theorem dX10_isWord_59 : decode cX10_isWord 59 = .ok (.iconst 0, 1) := by decide +kernel
theorem dX10_isWord_60 : decode cX10_isWord 60 = .ok (.istore_n 2, 1) := by decide +kernel
theorem dX10_isWord_61 : decode cX10_isWord 61 = .ok (.iinc 3 1, 3) := by decide +kernel
theorem dX10_isWord_64 : decode cX10_isWord 64 = .ok (.goto (-40), 3) := by decide +kernel
theorem dX10_isWord_67 : decode cX10_isWord 67 = .ok (.iload_n 2, 1) := by decide +kernel
theorem dX10_isWord_68 : decode cX10_isWord 68 = .ok (.ireturn, 1) := by decide +kernel
theorem dX10_isVariable_0 : decode cX10_isVariable 0 = .ok (.iload_n 0, 1) := by decide +kernel
theorem dX10_isVariable_1 : decode cX10_isVariable 1 = .ok (.bipush 97, 2) := by decide +kernel
theorem dX10_isVariable_3 : decode cX10_isVariable 3 = .ok (.bipush 100, 2) := by decide +kernel
theorem dX10_isVariable_5 : decode cX10_isVariable 5 = .ok (.invokestatic 104, 3) := by decide +kernel
theorem dX10_isVariable_8 : decode cX10_isVariable 8 = .ok (.ifCond .ne 9, 3) := by decide +kernel
theorem dX10_isVariable_11 : decode cX10_isVariable 11 = .ok (.iload_n 0, 1) := by decide +kernel
theorem dX10_isVariable_12 : decode cX10_isVariable 12 = .ok (.bipush 114, 2) := by decide +kernel
theorem dX10_isVariable_14 : decode cX10_isVariable 14 = .ok (.if_icmp .ne 7, 3) := by decide +kernel
theorem dX10_isVariable_17 : decode cX10_isVariable 17 = .ok (.iconst 1, 1) := by decide +kernel
theorem dX10_isVariable_18 : decode cX10_isVariable 18 = .ok (.goto 4, 3) := by decide +kernel
theorem dX10_isVariable_21 : decode cX10_isVariable 21 = .ok (.iconst 0, 1) := by decide +kernel
theorem dX10_isVariable_22 : decode cX10_isVariable 22 = .ok (.ireturn, 1) := by decide +kernel
theorem dX10_isSign_0 : decode cX10_isSign 0 = .ok (.iload_n 0, 1) := by decide +kernel
theorem dX10_isSign_1 : decode cX10_isSign 1 = .ok (.bipush 61, 2) := by decide +kernel
theorem dX10_isSign_3 : decode cX10_isSign 3 = .ok (.if_icmp .eq 69, 3) := by decide +kernel
theorem dX10_isSign_6 : decode cX10_isSign 6 = .ok (.iload_n 0, 1) := by decide +kernel
theorem dX10_isSign_7 : decode cX10_isSign 7 = .ok (.bipush 123, 2) := by decide +kernel
theorem dX10_isSign_9 : decode cX10_isSign 9 = .ok (.if_icmp .eq 63, 3) := by decide +kernel
theorem dX10_isSign_12 : decode cX10_isSign 12 = .ok (.iload_n 0, 1) := by decide +kernel
theorem dX10_isSign_13 : decode cX10_isSign 13 = .ok (.bipush 125, 2) := by decide +kernel
theorem dX10_isSign_15 : decode cX10_isSign 15 = .ok (.if_icmp .eq 57, 3) := by decide +kernel
theorem dX10_isSign_18 : decode cX10_isSign 18 = .ok (.iload_n 0, 1) := by decide +kernel
theorem dX10_isSign_19 : decode cX10_isSign 19 = .ok (.bipush 59, 2) := by decide +kernel
theorem dX10_isSign_21 : decode cX10_isSign 21 = .ok (.if_icmp .eq 51, 3) := by decide +kernel
theorem dX10_isSign_24 : decode cX10_isSign 24 = .ok (.iload_n 0, 1) := by decide +kernel
theorem dX10_isSign_25 : decode cX10_isSign 25 = .ok (.bipush 40, 2) := by decide +kernel
theorem dX10_isSign_27 : decode cX10_isSign 27 = .ok (.if_icmp .eq 45, 3) := by decide +kernel
theorem dX10_isSign_30 : decode cX10_isSign 30 = .ok (.iload_n 0, 1) := by decide +kernel
theorem dX10_isSign_31 : decode cX10_isSign 31 = .ok (.bipush 41, 2) := by decide +kernel
theorem dX10_isSign_33 : decode cX10_isSign 33 = .ok (.if_icmp .eq 39, 3) := by decide +kernel
theorem dX10_isSign_36 : decode cX10_isSign 36 = .ok (.iload_n 0, 1) := by decide +kernel
theorem dX10_isSign_37 : decode cX10_isSign 37 = .ok (.bipush 60, 2) := by decide +kernel
theorem dX10_isSign_39 : decode cX10_isSign 39 = .ok (.if_icmp .eq 33, 3) := by decide +kernel
theorem dX10_isSign_42 : decode cX10_isSign 42 = .ok (.iload_n 0, 1) := by decide +kernel
theorem dX10_isSign_43 : decode cX10_isSign 43 = .ok (.bipush 43, 2) := by decide +kernel
theorem dX10_isSign_45 : decode cX10_isSign 45 = .ok (.if_icmp .eq 27, 3) := by decide +kernel
theorem dX10_isSign_48 : decode cX10_isSign 48 = .ok (.iload_n 0, 1) := by decide +kernel
theorem dX10_isSign_49 : decode cX10_isSign 49 = .ok (.bipush 45, 2) := by decide +kernel
theorem dX10_isSign_51 : decode cX10_isSign 51 = .ok (.if_icmp .eq 21, 3) := by decide +kernel
theorem dX10_isSign_54 : decode cX10_isSign 54 = .ok (.iload_n 0, 1) := by decide +kernel
theorem dX10_isSign_55 : decode cX10_isSign 55 = .ok (.bipush 42, 2) := by decide +kernel
theorem dX10_isSign_57 : decode cX10_isSign 57 = .ok (.if_icmp .eq 15, 3) := by decide +kernel
theorem dX10_isSign_60 : decode cX10_isSign 60 = .ok (.iload_n 0, 1) := by decide +kernel
theorem dX10_isSign_61 : decode cX10_isSign 61 = .ok (.bipush 47, 2) := by decide +kernel
theorem dX10_isSign_63 : decode cX10_isSign 63 = .ok (.if_icmp .eq 9, 3) := by decide +kernel
theorem dX10_isSign_66 : decode cX10_isSign 66 = .ok (.iload_n 0, 1) := by decide +kernel
theorem dX10_isSign_67 : decode cX10_isSign 67 = .ok (.bipush 37, 2) := by decide +kernel
theorem dX10_isSign_69 : decode cX10_isSign 69 = .ok (.if_icmp .ne 7, 3) := by decide +kernel
theorem dX10_isSign_72 : decode cX10_isSign 72 = .ok (.iconst 1, 1) := by decide +kernel
theorem dX10_isSign_73 : decode cX10_isSign 73 = .ok (.goto 4, 3) := by decide +kernel
theorem dX10_isSign_76 : decode cX10_isSign 76 = .ok (.iconst 0, 1) := by decide +kernel
theorem dX10_isSign_77 : decode cX10_isSign 77 = .ok (.ireturn, 1) := by decide +kernel
theorem dX10_next_0 : decode cX10_next 0 = .ok (.aload_n 0, 1) := by decide +kernel
theorem dX10_next_1 : decode cX10_next 1 = .ok (.aload_n 0, 1) := by decide +kernel
theorem dX10_next_2 : decode cX10_next 2 = .ok (.getfield 108, 3) := by decide +kernel
theorem dX10_next_5 : decode cX10_next 5 = .ok (.bipush 32, 2) := by decide +kernel
theorem dX10_next_7 : decode cX10_next 7 = .ok (.bipush 32, 2) := by decide +kernel
theorem dX10_next_9 : decode cX10_next 9 = .ok (.invokevirtual 111, 3) := by decide +kernel
theorem dX10_next_12 : decode cX10_next 12 = .ok (.ifCond .eq 16, 3) := by decide +kernel
theorem dX10_next_15 : decode cX10_next 15 = .ok (.aload_n 0, 1) := by decide +kernel
theorem dX10_next_16 : decode cX10_next 16 = .ok (.dup, 1) := by decide +kernel
theorem dX10_next_17 : decode cX10_next 17 = .ok (.getfield 108, 3) := by decide +kernel
theorem dX10_next_20 : decode cX10_next 20 = .ok (.iconst 1, 1) := by decide +kernel
theorem dX10_next_21 : decode cX10_next 21 = .ok (.iadd, 1) := by decide +kernel
theorem dX10_next_22 : decode cX10_next 22 = .ok (.putfield 108, 3) := by decide +kernel
theorem dX10_next_25 : decode cX10_next 25 = .ok (.goto (-25), 3) := by decide +kernel
theorem dX10_next_28 : decode cX10_next 28 = .ok (.aload_n 0, 1) := by decide +kernel
theorem dX10_next_29 : decode cX10_next 29 = .ok (.aload_n 0, 1) := by decide +kernel
theorem dX10_next_30 : decode cX10_next 30 = .ok (.getfield 108, 3) := by decide +kernel
theorem dX10_next_33 : decode cX10_next 33 = .ok (.putfield 91, 3) := by decide +kernel
theorem dX10_next_36 : decode cX10_next 36 = .ok (.aload_n 0, 1) := by decide +kernel
theorem dX10_next_37 : decode cX10_next 37 = .ok (.aload_n 0, 1) := by decide +kernel
theorem dX10_next_38 : decode cX10_next 38 = .ok (.getfield 108, 3) := by decide +kernel
theorem dX10_next_41 : decode cX10_next 41 = .ok (.putfield 88, 3) := by decide +kernel
theorem dX10_next_44 : decode cX10_next 44 = .ok (.aload_n 0, 1) := by decide +kernel
theorem dX10_next_45 : decode cX10_next 45 = .ok (.getfield 108, 3) := by decide +kernel
theorem dX10_next_48 : decode cX10_next 48 = .ok (.aload_n 0, 1) := by decide +kernel
theorem dX10_next_49 : decode cX10_next 49 = .ok (.getfield 85, 3) := by decide +kernel
theorem dX10_next_52 : decode cX10_next 52 = .ok (.if_icmp .ne 6, 3) := by decide +kernel
theorem dX10_next_55 : decode cX10_next 55 = .ok (.bipush (-2), 2) := by decide +kernel
theorem dX10_next_57 : decode cX10_next 57 = .ok (.ireturn, 1) := by decide +kernel
theorem dX10_next_58 : decode cX10_next 58 = .ok (.aload_n 0, 1) := by decide +kernel
theorem dX10_next_59 : decode cX10_next 59 = .ok (.getfield 114, 3) := by decide +kernel
theorem dX10_next_62 : decode cX10_next 62 = .ok (.bipush 120, 2) := by decide +kernel
theorem dX10_next_64 : decode cX10_next 64 = .ok (.if_icmp .ne 6, 3) := by decide +kernel
theorem dX10_next_67 : decode cX10_next 67 = .ok (.bipush (-3), 2) := by decide +kernel
theorem dX10_next_69 : decode cX10_next 69 = .ok (.ireturn, 1) := by decide +kernel
theorem dX10_next_70 : decode cX10_next 70 = .ok (.aload_n 0, 1) := by decide +kernel
theorem dX10_next_71 : decode cX10_next 71 = .ok (.aload_n 0, 1) := by decide +kernel
theorem dX10_next_72 : decode cX10_next 72 = .ok (.getfield 108, 3) := by decide +kernel
theorem dX10_next_75 : decode cX10_next 75 = .ok (.bipush 97, 2) := by decide +kernel
theorem dX10_next_77 : decode cX10_next 77 = .ok (.bipush 122, 2) := by decide +kernel
theorem dX10_next_79 : decode cX10_next 79 = .ok (.invokevirtual 111, 3) := by decide +kernel
theorem dX10_next_82 : decode cX10_next 82 = .ok (.ifCond .eq 122, 3) := by decide +kernel
theorem dX10_next_85 : decode cX10_next 85 = .ok (.aload_n 0, 1) := by decide +kernel
theorem dX10_next_86 : decode cX10_next 86 = .ok (.aload_n 0, 1) := by decide +kernel
theorem dX10_next_87 : decode cX10_next 87 = .ok (.getfield 88, 3) := by decide +kernel
theorem dX10_next_90 : decode cX10_next 90 = .ok (.bipush 97, 2) := by decide +kernel
theorem dX10_next_92 : decode cX10_next 92 = .ok (.bipush 122, 2) := by decide +kernel
theorem dX10_next_94 : decode cX10_next 94 = .ok (.invokevirtual 111, 3) := by decide +kernel
theorem dX10_next_97 : decode cX10_next 97 = .ok (.ifCond .eq 16, 3) := by decide +kernel
theorem dX10_next_100 : decode cX10_next 100 = .ok (.aload_n 0, 1) := by decide +kernel
theorem dX10_next_101 : decode cX10_next 101 = .ok (.dup, 1) := by decide +kernel
theorem dX10_next_102 : decode cX10_next 102 = .ok (.getfield 88, 3) := by decide +kernel
theorem dX10_next_105 : decode cX10_next 105 = .ok (.iconst 1, 1) := by decide +kernel
theorem dX10_next_106 : decode cX10_next 106 = .ok (.iadd, 1) := by decide +kernel
theorem dX10_next_107 : decode cX10_next 107 = .ok (.putfield 88, 3) := by decide +kernel
theorem dX10_next_110 : decode cX10_next 110 = .ok (.goto (-25), 3) := by decide +kernel
theorem dX10_next_113 : decode cX10_next 113 = .ok (.aload_n 0, 1) := by decide +kernel
theorem dX10_next_114 : decode cX10_next 114 = .ok (.getfield 88, 3) := by decide +kernel
theorem dX10_next_117 : decode cX10_next 117 = .ok (.aload_n 0, 1) := by decide +kernel
theorem dX10_next_118 : decode cX10_next 118 = .ok (.getfield 91, 3) := by decide +kernel
theorem dX10_next_121 : decode cX10_next 121 = .ok (.isub, 1) := by decide +kernel
theorem dX10_next_122 : decode cX10_next 122 = .ok (.iconst 1, 1) := by decide +kernel
theorem dX10_next_123 : decode cX10_next 123 = .ok (.if_icmp .ne 33, 3) := by decide +kernel
theorem dX10_next_126 : decode cX10_next 126 = .ok (.aload_n 0, 1) := by decide +kernel
theorem dX10_next_127 : decode cX10_next 127 = .ok (.getfield 9, 3) := by decide +kernel
theorem dX10_next_130 : decode cX10_next 130 = .ok (.aload_n 0, 1) := by decide +kernel
theorem dX10_next_131 : decode cX10_next 131 = .ok (.getfield 91, 3) := by decide +kernel
theorem dX10_next_134 : decode cX10_next 134 = .ok (.baload, 1) := by decide +kernel
theorem dX10_next_135 : decode cX10_next 135 = .ok (.invokestatic 117, 3) := by decide +kernel
theorem dX10_next_138 : decode cX10_next 138 = .ok (.ifCond .eq 15, 3) := by decide +kernel
theorem dX10_next_141 : decode cX10_next 141 = .ok (.aload_n 0, 1) := by decide +kernel
theorem dX10_next_142 : decode cX10_next 142 = .ok (.getfield 9, 3) := by decide +kernel
theorem dX10_next_145 : decode cX10_next 145 = .ok (.aload_n 0, 1) := by decide +kernel
theorem dX10_next_146 : decode cX10_next 146 = .ok (.getfield 91, 3) := by decide +kernel
theorem dX10_next_149 : decode cX10_next 149 = .ok (.baload, 1) := by decide +kernel
theorem dX10_next_150 : decode cX10_next 150 = .ok (.goto 5, 3) := by decide +kernel
theorem dX10_next_153 : decode cX10_next 153 = .ok (.bipush (-3), 2) := by decide +kernel
theorem dX10_next_155 : decode cX10_next 155 = .ok (.ireturn, 1) := by decide +kernel
theorem dX10_next_156 : decode cX10_next 156 = .ok (.aload_n 0, 1) := by decide +kernel
theorem dX10_next_157 : decode cX10_next 157 = .ok (.ldc 121, 2) := by decide +kernel
theorem dX10_next_159 : decode cX10_next 159 = .ok (.invokevirtual 123, 3) := by decide +kernel
theorem dX10_next_162 : decode cX10_next 162 = .ok (.ifCond .eq 9, 3) := by decide +kernel
theorem dX10_next_165 : decode cX10_next 165 = .ok (.sipush 256, 3) := by decide +kernel
theorem dX10_next_168 : decode cX10_next 168 = .ok (.goto 35, 3) := by decide +kernel
theorem dX10_next_171 : decode cX10_next 171 = .ok (.aload_n 0, 1) := by decide +kernel
theorem dX10_next_172 : decode cX10_next 172 = .ok (.ldc 127, 2) := by decide +kernel
theorem dX10_next_174 : decode cX10_next 174 = .ok (.invokevirtual 123, 3) := by decide +kernel
theorem dX10_next_177 : decode cX10_next 177 = .ok (.ifCond .eq 9, 3) := by decide +kernel
theorem dX10_next_180 : decode cX10_next 180 = .ok (.sipush 257, 3) := by decide +kernel
