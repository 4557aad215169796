theorem dX10_changes_111 : decode cX10_changes 111 = .ok (.iconst 1, 1) := by decide +kernel
theorem dX10_changes_112 : decode cX10_changes 112 = .ok (.iadd, 1) := by decide +kernel
theorem dX10_changes_113 : decode cX10_changes 113 = .ok (.istore 5, 2) := by decide +kernel
theorem dX10_changes_115 : decode cX10_changes 115 = .ok (.iload 5, 2) := by decide +kernel
theorem dX10_changes_117 : decode cX10_changes 117 = .ok (.iconst 1, 1) := by decide +kernel
theorem dX10_changes_118 : decode cX10_changes 118 = .ok (.aload_n 0, 1) := by decide +kernel
theorem dX10_changes_119 : decode cX10_changes 119 = .ok (.getfield 76, 3) := by decide +kernel
theorem dX10_changes_122 : decode cX10_changes 122 = .ok (.iload_n 3, 1) := by decide +kernel
theorem dX10_changes_123 : decode cX10_changes 123 = .ok (.iload 4, 2) := by decide +kernel
theorem dX10_changes_125 : decode cX10_changes 125 = .ok (.iconst 1, 1) := by decide +kernel
theorem dX10_changes_126 : decode cX10_changes 126 = .ok (.iadd, 1) := by decide +kernel
theorem dX10_changes_127 : decode cX10_changes 127 = .ok (.invokestatic 280, 3) := by decide +kernel
theorem dX10_changes_130 : decode cX10_changes 130 = .ok (.iaload, 1) := by decide +kernel
theorem dX10_changes_131 : decode cX10_changes 131 = .ok (.aload_n 0, 1) := by decide +kernel
theorem dX10_changes_132 : decode cX10_changes 132 = .ok (.getfield 76, 3) := by decide +kernel
theorem dX10_changes_135 : decode cX10_changes 135 = .ok (.iload_n 3, 1) := by decide +kernel
theorem dX10_changes_136 : decode cX10_changes 136 = .ok (.iconst 1, 1) := by decide +kernel
theorem dX10_changes_137 : decode cX10_changes 137 = .ok (.iadd, 1) := by decide +kernel
theorem dX10_changes_138 : decode cX10_changes 138 = .ok (.iload 4, 2) := by decide +kernel
theorem dX10_changes_140 : decode cX10_changes 140 = .ok (.invokestatic 280, 3) := by decide +kernel
theorem dX10_changes_143 : decode cX10_changes 143 = .ok (.iaload, 1) := by decide +kernel
theorem dX10_changes_144 : decode cX10_changes 144 = .ok (.invokestatic 270, 3) := by decide +kernel
theorem dX10_changes_147 : decode cX10_changes 147 = .ok (.iadd, 1) := by decide +kernel
theorem dX10_changes_148 : decode cX10_changes 148 = .ok (.invokestatic 270, 3) := by decide +kernel
theorem dX10_changes_151 : decode cX10_changes 151 = .ok (.istore 5, 2) := by decide +kernel
theorem dX10_changes_153 : decode cX10_changes 153 = .ok (.aload_n 0, 1) := by decide +kernel
theorem dX10_changes_154 : decode cX10_changes 154 = .ok (.getfield 76, 3) := by decide +kernel
theorem dX10_changes_157 : decode cX10_changes 157 = .ok (.iload_n 3, 1) := by decide +kernel
theorem dX10_changes_158 : decode cX10_changes 158 = .ok (.iload 4, 2) := by decide +kernel
theorem dX10_changes_160 : decode cX10_changes 160 = .ok (.invokestatic 280, 3) := by decide +kernel
theorem dX10_changes_163 : decode cX10_changes 163 = .ok (.iload 5, 2) := by decide +kernel
theorem dX10_changes_165 : decode cX10_changes 165 = .ok (.iastore, 1) := by decide +kernel
theorem dX10_changes_166 : decode cX10_changes 166 = .ok (.iinc 4 (-1), 3) := by decide +kernel
theorem dX10_changes_169 : decode cX10_changes 169 = .ok (.goto (-150), 3) := by decide +kernel
theorem dX10_changes_172 : decode cX10_changes 172 = .ok (.iinc 3 (-1), 3) := by decide +kernel
theorem dX10_changes_175 : decode cX10_changes 175 = .ok (.goto (-163), 3) := by decide +kernel
theorem dX10_changes_178 : decode cX10_changes 178 = .ok (.aload_n 0, 1) := by decide +kernel
theorem dX10_changes_179 : decode cX10_changes 179 = .ok (.getfield 76, 3) := by decide +kernel
theorem dX10_changes_182 : decode cX10_changes 182 = .ok (.iconst 0, 1) := by decide +kernel
theorem dX10_changes_183 : decode cX10_changes 183 = .ok (.iaload, 1) := by decide +kernel
theorem dX10_changes_184 : decode cX10_changes 184 = .ok (.ireturn, 1) := by decide +kernel
theorem dX10_hints_0 : decode cX10_hints 0 = .ok (.aload_n 0, 1) := by decide +kernel
theorem dX10_hints_1 : decode cX10_hints 1 = .ok (.getfield 58, 3) := by decide +kernel
theorem dX10_hints_4 : decode cX10_hints 4 = .ok (.iload_n 1, 1) := by decide +kernel
theorem dX10_hints_5 : decode cX10_hints 5 = .ok (.iaload, 1) := by decide +kernel
theorem dX10_hints_6 : decode cX10_hints 6 = .ok (.istore_n 2, 1) := by decide +kernel
theorem dX10_hints_7 : decode cX10_hints 7 = .ok (.aload_n 0, 1) := by decide +kernel
theorem dX10_hints_8 : decode cX10_hints 8 = .ok (.iload_n 1, 1) := by decide +kernel
theorem dX10_hints_9 : decode cX10_hints 9 = .ok (.invokevirtual 283, 3) := by decide +kernel
theorem dX10_hints_12 : decode cX10_hints 12 = .ok (.istore_n 3, 1) := by decide +kernel
theorem dX10_hints_13 : decode cX10_hints 13 = .ok (.iconst 0, 1) := by decide +kernel
theorem dX10_hints_14 : decode cX10_hints 14 = .ok (.istore 4, 2) := by decide +kernel
theorem dX10_hints_16 : decode cX10_hints 16 = .ok (.iconst 0, 1) := by decide +kernel
theorem dX10_hints_17 : decode cX10_hints 17 = .ok (.istore 5, 2) := by decide +kernel
theorem dX10_hints_19 : decode cX10_hints 19 = .ok (.iload 4, 2) := by decide +kernel
theorem dX10_hints_21 : decode cX10_hints 21 = .ok (.aload_n 0, 1) := by decide +kernel
theorem dX10_hints_22 : decode cX10_hints 22 = .ok (.getfield 184, 3) := by decide +kernel
theorem dX10_hints_25 : decode cX10_hints 25 = .ok (.if_icmp .ge 60, 3) := by decide +kernel
theorem dX10_hints_28 : decode cX10_hints 28 = .ok (.iload 5, 2) := by decide +kernel
theorem dX10_hints_30 : decode cX10_hints 30 = .ok (.iload_n 2, 1) := by decide +kernel
theorem dX10_hints_31 : decode cX10_hints 31 = .ok (.if_icmp .ge 54, 3) := by decide +kernel
theorem dX10_hints_34 : decode cX10_hints 34 = .ok (.aload_n 0, 1) := by decide +kernel
theorem dX10_hints_35 : decode cX10_hints 35 = .ok (.getfield 24, 3) := by decide +kernel
theorem dX10_hints_38 : decode cX10_hints 38 = .ok (.iload 4, 2) := by decide +kernel
theorem dX10_hints_40 : decode cX10_hints 40 = .ok (.iaload, 1) := by decide +kernel
theorem dX10_hints_41 : decode cX10_hints 41 = .ok (.aload_n 0, 1) := by decide +kernel
theorem dX10_hints_42 : decode cX10_hints 42 = .ok (.getfield 61, 3) := by decide +kernel
theorem dX10_hints_45 : decode cX10_hints 45 = .ok (.bipush 120, 2) := by decide +kernel
theorem dX10_hints_47 : decode cX10_hints 47 = .ok (.iload_n 1, 1) := by decide +kernel
theorem dX10_hints_48 : decode cX10_hints 48 = .ok (.imul, 1) := by decide +kernel
theorem dX10_hints_49 : decode cX10_hints 49 = .ok (.iload 5, 2) := by decide +kernel
theorem dX10_hints_51 : decode cX10_hints 51 = .ok (.iadd, 1) := by decide +kernel
theorem dX10_hints_52 : decode cX10_hints 52 = .ok (.iaload, 1) := by decide +kernel
theorem dX10_hints_53 : decode cX10_hints 53 = .ok (.if_icmp .ne 32, 3) := by decide +kernel
theorem dX10_hints_56 : decode cX10_hints 56 = .ok (.aload_n 0, 1) := by decide +kernel
theorem dX10_hints_57 : decode cX10_hints 57 = .ok (.getfield 76, 3) := by decide +kernel
theorem dX10_hints_60 : decode cX10_hints 60 = .ok (.iload 4, 2) := by decide +kernel
theorem dX10_hints_62 : decode cX10_hints 62 = .ok (.iconst 1, 1) := by decide +kernel
theorem dX10_hints_63 : decode cX10_hints 63 = .ok (.iadd, 1) := by decide +kernel
theorem dX10_hints_64 : decode cX10_hints 64 = .ok (.iload 5, 2) := by decide +kernel
theorem dX10_hints_66 : decode cX10_hints 66 = .ok (.iconst 1, 1) := by decide +kernel
theorem dX10_hints_67 : decode cX10_hints 67 = .ok (.iadd, 1) := by decide +kernel
theorem dX10_hints_68 : decode cX10_hints 68 = .ok (.invokestatic 280, 3) := by decide +kernel
theorem dX10_hints_71 : decode cX10_hints 71 = .ok (.iaload, 1) := by decide +kernel
theorem dX10_hints_72 : decode cX10_hints 72 = .ok (.iload_n 3, 1) := by decide +kernel
theorem dX10_hints_73 : decode cX10_hints 73 = .ok (.if_icmp .ne 12, 3) := by decide +kernel
theorem dX10_hints_76 : decode cX10_hints 76 = .ok (.iinc 4 1, 3) := by decide +kernel
theorem dX10_hints_79 : decode cX10_hints 79 = .ok (.iinc 5 1, 3) := by decide +kernel
theorem dX10_hints_82 : decode cX10_hints 82 = .ok (.goto (-63), 3) := by decide +kernel
theorem dX10_hints_85 : decode cX10_hints 85 = .ok (.aload_n 0, 1) := by decide +kernel
theorem dX10_hints_86 : decode cX10_hints 86 = .ok (.iload 4, 2) := by decide +kernel
theorem dX10_hints_88 : decode cX10_hints 88 = .ok (.putfield 286, 3) := by decide +kernel
theorem dX10_hints_91 : decode cX10_hints 91 = .ok (.iload 4, 2) := by decide +kernel
theorem dX10_hints_93 : decode cX10_hints 93 = .ok (.aload_n 0, 1) := by decide +kernel
theorem dX10_hints_94 : decode cX10_hints 94 = .ok (.getfield 184, 3) := by decide +kernel
theorem dX10_hints_97 : decode cX10_hints 97 = .ok (.if_icmp .ge 57, 3) := by decide +kernel
theorem dX10_hints_100 : decode cX10_hints 100 = .ok (.iload 5, 2) := by decide +kernel
theorem dX10_hints_102 : decode cX10_hints 102 = .ok (.iload_n 2, 1) := by decide +kernel
theorem dX10_hints_103 : decode cX10_hints 103 = .ok (.if_icmp .ge 51, 3) := by decide +kernel
theorem dX10_hints_106 : decode cX10_hints 106 = .ok (.aload_n 0, 1) := by decide +kernel
theorem dX10_hints_107 : decode cX10_hints 107 = .ok (.getfield 24, 3) := by decide +kernel
theorem dX10_hints_110 : decode cX10_hints 110 = .ok (.iload 4, 2) := by decide +kernel
theorem dX10_hints_112 : decode cX10_hints 112 = .ok (.iaload, 1) := by decide +kernel
theorem dX10_hints_113 : decode cX10_hints 113 = .ok (.aload_n 0, 1) := by decide +kernel
theorem dX10_hints_114 : decode cX10_hints 114 = .ok (.getfield 61, 3) := by decide +kernel
theorem dX10_hints_117 : decode cX10_hints 117 = .ok (.bipush 120, 2) := by decide +kernel
theorem dX10_hints_119 : decode cX10_hints 119 = .ok (.iload_n 1, 1) := by decide +kernel
theorem dX10_hints_120 : decode cX10_hints 120 = .ok (.imul, 1) := by decide +kernel
theorem dX10_hints_121 : decode cX10_hints 121 = .ok (.iload 5, 2) := by decide +kernel
theorem dX10_hints_123 : decode cX10_hints 123 = .ok (.iadd, 1) := by decide +kernel
theorem dX10_hints_124 : decode cX10_hints 124 = .ok (.iaload, 1) := by decide +kernel
theorem dX10_hints_125 : decode cX10_hints 125 = .ok (.if_icmp .eq 29, 3) := by decide +kernel
theorem dX10_hints_128 : decode cX10_hints 128 = .ok (.aload_n 0, 1) := by decide +kernel
theorem dX10_hints_129 : decode cX10_hints 129 = .ok (.getfield 76, 3) := by decide +kernel
theorem dX10_hints_132 : decode cX10_hints 132 = .ok (.iload 4, 2) := by decide +kernel
theorem dX10_hints_134 : decode cX10_hints 134 = .ok (.iconst 1, 1) := by decide +kernel
theorem dX10_hints_135 : decode cX10_hints 135 = .ok (.iadd, 1) := by decide +kernel
theorem dX10_hints_136 : decode cX10_hints 136 = .ok (.iload 5, 2) := by decide +kernel
theorem dX10_hints_138 : decode cX10_hints 138 = .ok (.iconst 1, 1) := by decide +kernel
theorem dX10_hints_139 : decode cX10_hints 139 = .ok (.iadd, 1) := by decide +kernel
theorem dX10_hints_140 : decode cX10_hints 140 = .ok (.invokestatic 280, 3) := by decide +kernel
theorem dX10_hints_143 : decode cX10_hints 143 = .ok (.iaload, 1) := by decide +kernel
theorem dX10_hints_144 : decode cX10_hints 144 = .ok (.iconst 1, 1) := by decide +kernel
theorem dX10_hints_145 : decode cX10_hints 145 = .ok (.iadd, 1) := by decide +kernel
theorem dX10_hints_146 : decode cX10_hints 146 = .ok (.iload_n 3, 1) := by decide +kernel
theorem dX10_hints_147 : decode cX10_hints 147 = .ok (.if_icmp .ne 7, 3) := by decide +kernel
theorem dX10_hints_150 : decode cX10_hints 150 = .ok (.iconst 1, 1) := by decide +kernel
theorem dX10_hints_151 : decode cX10_hints 151 = .ok (.goto 4, 3) := by decide +kernel
theorem dX10_hints_154 : decode cX10_hints 154 = .ok (.iconst 0, 1) := by decide +kernel
theorem dX10_hints_155 : decode cX10_hints 155 = .ok (.istore 6, 2) := by decide +kernel
theorem dX10_hints_157 : decode cX10_hints 157 = .ok (.iload 5, 2) := by decide +kernel
theorem dX10_hints_159 : decode cX10_hints 159 = .ok (.iload_n 2, 1) := by decide +kernel
theorem dX10_hints_160 : decode cX10_hints 160 = .ok (.if_icmp .ge 27, 3) := by decide +kernel
theorem dX10_hints_163 : decode cX10_hints 163 = .ok (.aload_n 0, 1) := by decide +kernel
theorem dX10_hints_164 : decode cX10_hints 164 = .ok (.getfield 76, 3) := by decide +kernel
theorem dX10_hints_167 : decode cX10_hints 167 = .ok (.iload 4, 2) := by decide +kernel
theorem dX10_hints_169 : decode cX10_hints 169 = .ok (.iload 5, 2) := by decide +kernel
theorem dX10_hints_171 : decode cX10_hints 171 = .ok (.iconst 1, 1) := by decide +kernel
theorem dX10_hints_172 : decode cX10_hints 172 = .ok (.iadd, 1) := by decide +kernel
theorem dX10_hints_173 : decode cX10_hints 173 = .ok (.invokestatic 280, 3) := by decide +kernel
theorem dX10_hints_176 : decode cX10_hints 176 = .ok (.iaload, 1) := by decide +kernel
theorem dX10_hints_177 : decode cX10_hints 177 = .ok (.iconst 1, 1) := by decide +kernel
theorem dX10_hints_178 : decode cX10_hints 178 = .ok (.iadd, 1) := by decide +kernel
theorem dX10_hints_179 : decode cX10_hints 179 = .ok (.iload_n 3, 1) := by decide +kernel
theorem dX10_hints_180 : decode cX10_hints 180 = .ok (.if_icmp .ne 7, 3) := by decide +kernel
theorem dX10_hints_183 : decode cX10_hints 183 = .ok (.iconst 1, 1) := by decide +kernel
theorem dX10_hints_184 : decode cX10_hints 184 = .ok (.goto 4, 3) := by decide +kernel
theorem dX10_hints_187 : decode cX10_hints 187 = .ok (.iconst 0, 1) := by decide +kernel
theorem dX10_hints_188 : decode cX10_hints 188 = .ok (.istore 7, 2) := by decide +kernel
theorem dX10_hints_190 : decode cX10_hints 190 = .ok (.aload_n 0, 1) := by decide +kernel
theorem dX10_hints_191 : decode cX10_hints 191 = .ok (.iload 6, 2) := by decide +kernel
theorem dX10_hints_193 : decode cX10_hints 193 = .ok (.ifCond .eq 7, 3) := by decide +kernel
theorem dX10_hints_196 : decode cX10_hints 196 = .ok (.iconst 0, 1) := by decide +kernel
theorem dX10_hints_197 : decode cX10_hints 197 = .ok (.goto 13, 3) := by decide +kernel
theorem dX10_hints_200 : decode cX10_hints 200 = .ok (.iload 7, 2) := by decide +kernel
theorem dX10_hints_202 : decode cX10_hints 202 = .ok (.ifCond .eq 7, 3) := by decide +kernel
theorem dX10_hints_205 : decode cX10_hints 205 = .ok (.iconst 1, 1) := by decide +kernel
theorem dX10_hints_206 : decode cX10_hints 206 = .ok (.goto 4, 3) := by decide +kernel
theorem dX10_hints_209 : decode cX10_hints 209 = .ok (.iconst 2, 1) := by decide +kernel
theorem dX10_hints_210 : decode cX10_hints 210 = .ok (.putfield 289, 3) := by decide +kernel
theorem dX10_hints_213 : decode cX10_hints 213 = .ok (.aload_n 0, 1) := by decide +kernel
theorem dX10_hints_214 : decode cX10_hints 214 = .ok (.aload_n 0, 1) := by decide +kernel
theorem dX10_hints_215 : decode cX10_hints 215 = .ok (.getfield 289, 3) := by decide +kernel
theorem dX10_hints_218 : decode cX10_hints 218 = .ok (.iconst 2, 1) := by decide +kernel
theorem dX10_hints_219 : decode cX10_hints 219 = .ok (.if_icmp .ne 7, 3) := by decide +kernel
theorem dX10_hints_222 : decode cX10_hints 222 = .ok (.iconst (-1), 1) := by decide +kernel
theorem dX10_hints_223 : decode cX10_hints 223 = .ok (.goto 15, 3) := by decide +kernel
theorem dX10_hints_226 : decode cX10_hints 226 = .ok (.aload_n 0, 1) := by decide +kernel
theorem dX10_hints_227 : decode cX10_hints 227 = .ok (.getfield 61, 3) := by decide +kernel
theorem dX10_hints_230 : decode cX10_hints 230 = .ok (.bipush 120, 2) := by decide +kernel
theorem dX10_hints_232 : decode cX10_hints 232 = .ok (.iload_n 1, 1) := by decide +kernel
theorem dX10_hints_233 : decode cX10_hints 233 = .ok (.imul, 1) := by decide +kernel
theorem dX10_hints_234 : decode cX10_hints 234 = .ok (.iload 5, 2) := by decide +kernel
theorem dX10_hints_236 : decode cX10_hints 236 = .ok (.iadd, 1) := by decide +kernel
theorem dX10_hints_237 : decode cX10_hints 237 = .ok (.iaload, 1) := by decide +kernel
theorem dX10_hints_238 : decode cX10_hints 238 = .ok (.putfield 292, 3) := by decide +kernel
theorem dX10_hints_241 : decode cX10_hints 241 = .ok (.return_, 1) := by decide +kernel
theorem dX10_hint_0 : decode cX10_hint 0 = .ok (.aload_n 0, 1) := by decide +kernel
theorem dX10_hint_1 : decode cX10_hint 1 = .ok (.iconst 0, 1) := by decide +kernel
theorem dX10_hint_2 : decode cX10_hint 2 = .ok (.putfield 79, 3) := by decide +kernel
theorem dX10_hint_5 : decode cX10_hint 5 = .ok (.aload_n 0, 1) := by decide +kernel
theorem dX10_hint_6 : decode cX10_hint 6 = .ok (.aload_n 0, 1) := by decide +kernel
theorem dX10_hint_7 : decode cX10_hint 7 = .ok (.iload_n 1, 1) := by decide +kernel
theorem dX10_hint_8 : decode cX10_hint 8 = .ok (.invokevirtual 248, 3) := by decide +kernel
theorem dX10_hint_11 : decode cX10_hint 11 = .ok (.iconst 1, 1) := by decide +kernel
theorem dX10_hint_12 : decode cX10_hint 12 = .ok (.invokevirtual 180, 3) := by decide +kernel
theorem dX10_hint_15 : decode cX10_hint 15 = .ok (.ifCond .ne 45, 3) := by decide +kernel
theorem dX10_hint_18 : decode cX10_hint 18 = .ok (.aload_n 0, 1) := by decide +kernel
theorem dX10_hint_19 : decode cX10_hint 19 = .ok (.aload_n 0, 1) := by decide +kernel
theorem dX10_hint_20 : decode cX10_hint 20 = .ok (.getfield 184, 3) := by decide +kernel
theorem dX10_hint_23 : decode cX10_hint 23 = .ok (.ifCond .ne 7, 3) := by decide +kernel
theorem dX10_hint_26 : decode cX10_hint 26 = .ok (.iconst 1, 1) := by decide +kernel
theorem dX10_hint_27 : decode cX10_hint 27 = .ok (.goto 4, 3) := by decide +kernel
theorem dX10_hint_30 : decode cX10_hint 30 = .ok (.iconst 0, 1) := by decide +kernel
theorem dX10_hint_31 : decode cX10_hint 31 = .ok (.iconst 2, 1) := by decide +kernel
theorem dX10_hint_32 : decode cX10_hint 32 = .ok (.invokevirtual 180, 3) := by decide +kernel
theorem dX10_hint_35 : decode cX10_hint 35 = .ok (.ifCond .ne 25, 3) := by decide +kernel
theorem dX10_hint_38 : decode cX10_hint 38 = .ok (.aload_n 0, 1) := by decide +kernel
theorem dX10_hint_39 : decode cX10_hint 39 = .ok (.iload_n 2, 1) := by decide +kernel
theorem dX10_hint_40 : decode cX10_hint 40 = .ok (.iconst 0, 1) := by decide +kernel
theorem dX10_hint_41 : decode cX10_hint 41 = .ok (.iconst 4, 1) := by decide +kernel
theorem dX10_hint_42 : decode cX10_hint 42 = .ok (.invokestatic 104, 3) := by decide +kernel
theorem dX10_hint_45 : decode cX10_hint 45 = .ok (.ifCond .ne 7, 3) := by decide +kernel
theorem dX10_hint_48 : decode cX10_hint 48 = .ok (.iconst 1, 1) := by decide +kernel
theorem dX10_hint_49 : decode cX10_hint 49 = .ok (.goto 4, 3) := by decide +kernel
theorem dX10_hint_52 : decode cX10_hint 52 = .ok (.iconst 0, 1) := by decide +kernel
theorem dX10_hint_53 : decode cX10_hint 53 = .ok (.iconst 3, 1) := by decide +kernel
theorem dX10_hint_54 : decode cX10_hint 54 = .ok (.invokevirtual 180, 3) := by decide +kernel
theorem dX10_hint_57 : decode cX10_hint 57 = .ok (.ifCond .eq 5, 3) := by decide +kernel
theorem dX10_hint_60 : decode cX10_hint 60 = .ok (.iconst 0, 1) := by decide +kernel
theorem dX10_hint_61 : decode cX10_hint 61 = .ok (.ireturn, 1) := by decide +kernel
theorem dX10_hint_62 : decode cX10_hint 62 = .ok (.iconst (-1), 1) := by decide +kernel
theorem dX10_hint_63 : decode cX10_hint 63 = .ok (.istore_n 3, 1) := by decide +kernel
theorem dX10_hint_64 : decode cX10_hint 64 = .ok (.iconst 0, 1) := by decide +kernel
theorem dX10_hint_65 : decode cX10_hint 65 = .ok (.istore 4, 2) := by decide +kernel
theorem dX10_hint_67 : decode cX10_hint 67 = .ok (.iconst 0, 1) := by decide +kernel
theorem dX10_hint_68 : decode cX10_hint 68 = .ok (.istore 5, 2) := by decide +kernel
theorem dX10_hint_70 : decode cX10_hint 70 = .ok (.iload 5, 2) := by decide +kernel
theorem dX10_hint_72 : decode cX10_hint 72 = .ok (.aload_n 0, 1) := by decide +kernel
theorem dX10_hint_73 : decode cX10_hint 73 = .ok (.getfield 55, 3) := by decide +kernel
theorem dX10_hint_76 : decode cX10_hint 76 = .ok (.iload_n 1, 1) := by decide +kernel
theorem dX10_hint_77 : decode cX10_hint 77 = .ok (.iaload, 1) := by decide +kernel
theorem dX10_hint_78 : decode cX10_hint 78 = .ok (.if_icmp .ge 43, 3) := by decide +kernel
theorem dX10_hint_81 : decode cX10_hint 81 = .ok (.aload_n 0, 1) := by decide +kernel
theorem dX10_hint_82 : decode cX10_hint 82 = .ok (.bipush 10, 2) := by decide +kernel
theorem dX10_hint_84 : decode cX10_hint 84 = .ok (.iload_n 1, 1) := by decide +kernel
theorem dX10_hint_85 : decode cX10_hint 85 = .ok (.imul, 1) := by decide +kernel
theorem dX10_hint_86 : decode cX10_hint 86 = .ok (.iload 5, 2) := by decide +kernel
theorem dX10_hint_88 : decode cX10_hint 88 = .ok (.iadd, 1) := by decide +kernel
theorem dX10_hint_89 : decode cX10_hint 89 = .ok (.invokevirtual 283, 3) := by decide +kernel
theorem dX10_hint_92 : decode cX10_hint 92 = .ok (.istore 6, 2) := by decide +kernel
theorem dX10_hint_94 : decode cX10_hint 94 = .ok (.iload_n 3, 1) := by decide +kernel
theorem dX10_hint_95 : decode cX10_hint 95 = .ok (.ifCond .lt 13, 3) := by decide +kernel
theorem dX10_hint_98 : decode cX10_hint 98 = .ok (.iload 6, 2) := by decide +kernel
theorem dX10_hint_100 : decode cX10_hint 100 = .ok (.iload 4, 2) := by decide +kernel
theorem dX10_hint_102 : decode cX10_hint 102 = .ok (.if_icmp .lt 6, 3) := by decide +kernel
theorem dX10_hint_105 : decode cX10_hint 105 = .ok (.goto 10, 3) := by decide +kernel
theorem dX10_hint_108 : decode cX10_hint 108 = .ok (.iload 5, 2) := by decide +kernel
theorem dX10_hint_110 : decode cX10_hint 110 = .ok (.istore_n 3, 1) := by decide +kernel
theorem dX10_hint_111 : decode cX10_hint 111 = .ok (.iload 6, 2) := by decide +kernel
theorem dX10_hint_113 : decode cX10_hint 113 = .ok (.istore 4, 2) := by decide +kernel
theorem dX10_hint_115 : decode cX10_hint 115 = .ok (.iinc 5 1, 3) := by decide +kernel
theorem dX10_hint_118 : decode cX10_hint 118 = .ok (.goto (-48), 3) := by decide +kernel
theorem dX10_hint_121 : decode cX10_hint 121 = .ok (.iload_n 3, 1) := by decide +kernel
theorem dX10_hint_122 : decode cX10_hint 122 = .ok (.ifCond .ge 5, 3) := by decide +kernel
theorem dX10_hint_125 : decode cX10_hint 125 = .ok (.iconst (-1), 1) := by decide +kernel
theorem dX10_hint_126 : decode cX10_hint 126 = .ok (.ireturn, 1) := by decide +kernel
theorem dX10_hint_127 : decode cX10_hint 127 = .ok (.iload_n 2, 1) := by decide +kernel
theorem dX10_hint_128 : decode cX10_hint 128 = .ok (.ifCond .ne 6, 3) := by decide +kernel
theorem dX10_hint_131 : decode cX10_hint 131 = .ok (.iload 4, 2) := by decide +kernel
theorem dX10_hint_133 : decode cX10_hint 133 = .ok (.ireturn, 1) := by decide +kernel
theorem dX10_hint_134 : decode cX10_hint 134 = .ok (.iload_n 2, 1) := by decide +kernel
theorem dX10_hint_135 : decode cX10_hint 135 = .ok (.iconst 1, 1) := by decide +kernel
theorem dX10_hint_136 : decode cX10_hint 136 = .ok (.if_icmp .ne 5, 3) := by decide +kernel
theorem dX10_hint_139 : decode cX10_hint 139 = .ok (.iload_n 3, 1) := by decide +kernel
theorem dX10_hint_140 : decode cX10_hint 140 = .ok (.ireturn, 1) := by decide +kernel
theorem dX10_hint_141 : decode cX10_hint 141 = .ok (.iload 4, 2) := by decide +kernel
theorem dX10_hint_143 : decode cX10_hint 143 = .ok (.ifCond .ne 5, 3) := by decide +kernel
theorem dX10_hint_146 : decode cX10_hint 146 = .ok (.iconst (-1), 1) := by decide +kernel
theorem dX10_hint_147 : decode cX10_hint 147 = .ok (.ireturn, 1) := by decide +kernel
theorem dX10_hint_148 : decode cX10_hint 148 = .ok (.aload_n 0, 1) := by decide +kernel
theorem dX10_hint_149 : decode cX10_hint 149 = .ok (.bipush 10, 2) := by decide +kernel
theorem dX10_hint_151 : decode cX10_hint 151 = .ok (.iload_n 1, 1) := by decide +kernel
theorem dX10_hint_152 : decode cX10_hint 152 = .ok (.imul, 1) := by decide +kernel
theorem dX10_hint_153 : decode cX10_hint 153 = .ok (.iload_n 3, 1) := by decide +kernel
theorem dX10_hint_154 : decode cX10_hint 154 = .ok (.iadd, 1) := by decide +kernel
theorem dX10_hint_155 : decode cX10_hint 155 = .ok (.invokevirtual 295, 3) := by decide +kernel
theorem dX10_hint_158 : decode cX10_hint 158 = .ok (.iload_n 2, 1) := by decide +kernel
theorem dX10_hint_159 : decode cX10_hint 159 = .ok (.iconst 2, 1) := by decide +kernel
theorem dX10_hint_160 : decode cX10_hint 160 = .ok (.if_icmp .ne 10, 3) := by decide +kernel
theorem dX10_hint_163 : decode cX10_hint 163 = .ok (.aload_n 0, 1) := by decide +kernel
theorem dX10_hint_164 : decode cX10_hint 164 = .ok (.getfield 289, 3) := by decide +kernel
theorem dX10_hint_167 : decode cX10_hint 167 = .ok (.goto 19, 3) := by decide +kernel
theorem dX10_hint_170 : decode cX10_hint 170 = .ok (.iload_n 2, 1) := by decide +kernel
theorem dX10_hint_171 : decode cX10_hint 171 = .ok (.iconst 3, 1) := by decide +kernel
theorem dX10_hint_172 : decode cX10_hint 172 = .ok (.if_icmp .ne 10, 3) := by decide +kernel
theorem dX10_hint_175 : decode cX10_hint 175 = .ok (.aload_n 0, 1) := by decide +kernel
theorem dX10_hint_176 : decode cX10_hint 176 = .ok (.getfield 286, 3) := by decide +kernel
theorem dX10_hint_179 : decode cX10_hint 179 = .ok (.goto 7, 3) := by decide +kernel
theorem dX10_hint_182 : decode cX10_hint 182 = .ok (.aload_n 0, 1) := by decide +kernel
theorem dX10_hint_183 : decode cX10_hint 183 = .ok (.getfield 292, 3) := by decide +kernel
theorem dX10_hint_186 : decode cX10_hint 186 = .ok (.ireturn, 1) := by decide +kernel
theorem dX10_alike_0 : decode cX10_alike 0 = .ok (.aload_n 0, 1) := by decide +kernel
theorem dX10_alike_1 : decode cX10_alike 1 = .ok (.iconst 0, 1) := by decide +kernel
theorem dX10_alike_2 : decode cX10_alike 2 = .ok (.putfield 79, 3) := by decide +kernel
theorem dX10_alike_5 : decode cX10_alike 5 = .ok (.aload_n 0, 1) := by decide +kernel
theorem dX10_alike_6 : decode cX10_alike 6 = .ok (.aload_n 0, 1) := by decide +kernel
theorem dX10_alike_7 : decode cX10_alike 7 = .ok (.iload_n 1, 1) := by decide +kernel
theorem dX10_alike_8 : decode cX10_alike 8 = .ok (.invokevirtual 248, 3) := by decide +kernel
theorem dX10_alike_11 : decode cX10_alike 11 = .ok (.ifCond .ne 17, 3) := by decide +kernel
theorem dX10_alike_14 : decode cX10_alike 14 = .ok (.iload_n 2, 1) := by decide +kernel
theorem dX10_alike_15 : decode cX10_alike 15 = .ok (.invokestatic 258, 3) := by decide +kernel
theorem dX10_alike_18 : decode cX10_alike 18 = .ok (.ifCond .ne 10, 3) := by decide +kernel
theorem dX10_alike_21 : decode cX10_alike 21 = .ok (.iload_n 3, 1) := by decide +kernel
theorem dX10_alike_22 : decode cX10_alike 22 = .ok (.invokestatic 258, 3) := by decide +kernel
theorem dX10_alike_25 : decode cX10_alike 25 = .ok (.ifCond .eq 7, 3) := by decide +kernel
theorem dX10_alike_28 : decode cX10_alike 28 = .ok (.iconst 1, 1) := by decide +kernel
theorem dX10_alike_29 : decode cX10_alike 29 = .ok (.goto 4, 3) := by decide +kernel
theorem dX10_alike_32 : decode cX10_alike 32 = .ok (.iconst 0, 1) := by decide +kernel
theorem dX10_alike_33 : decode cX10_alike 33 = .ok (.iconst 1, 1) := by decide +kernel
theorem dX10_alike_34 : decode cX10_alike 34 = .ok (.invokevirtual 180, 3) := by decide +kernel
theorem dX10_alike_37 : decode cX10_alike 37 = .ok (.ifCond .ne 8, 3) := by decide +kernel
theorem dX10_alike_40 : decode cX10_alike 40 = .ok (.iload_n 2, 1) := by decide +kernel
theorem dX10_alike_41 : decode cX10_alike 41 = .ok (.iload_n 3, 1) := by decide +kernel
theorem dX10_alike_42 : decode cX10_alike 42 = .ok (.if_icmp .ne 5, 3) := by decide +kernel
theorem dX10_alike_45 : decode cX10_alike 45 = .ok (.iconst 0, 1) := by decide +kernel
theorem dX10_alike_46 : decode cX10_alike 46 = .ok (.ireturn, 1) := by decide +kernel
theorem dX10_alike_47 : decode cX10_alike 47 = .ok (.bipush 10, 2) := by decide +kernel
theorem dX10_alike_49 : decode cX10_alike 49 = .ok (.iload_n 2, 1) := by decide +kernel
theorem dX10_alike_50 : decode cX10_alike 50 = .ok (.imul, 1) := by decide +kernel
theorem dX10_alike_51 : decode cX10_alike 51 = .ok (.iload_n 1, 1) := by decide +kernel
theorem dX10_alike_52 : decode cX10_alike 52 = .ok (.iadd, 1) := by decide +kernel
theorem dX10_alike_53 : decode cX10_alike 53 = .ok (.istore 5, 2) := by decide +kernel
theorem dX10_alike_55 : decode cX10_alike 55 = .ok (.bipush 10, 2) := by decide +kernel
theorem dX10_alike_57 : decode cX10_alike 57 = .ok (.iload_n 3, 1) := by decide +kernel
theorem dX10_alike_58 : decode cX10_alike 58 = .ok (.imul, 1) := by decide +kernel
theorem dX10_alike_59 : decode cX10_alike 59 = .ok (.iload_n 1, 1) := by decide +kernel
theorem dX10_alike_60 : decode cX10_alike 60 = .ok (.iadd, 1) := by decide +kernel
theorem dX10_alike_61 : decode cX10_alike 61 = .ok (.istore 6, 2) := by decide +kernel
theorem dX10_alike_63 : decode cX10_alike 63 = .ok (.aload_n 0, 1) := by decide +kernel
theorem dX10_alike_64 : decode cX10_alike 64 = .ok (.getfield 64, 3) := by decide +kernel
theorem dX10_alike_67 : decode cX10_alike 67 = .ok (.iload 5, 2) := by decide +kernel
theorem dX10_alike_69 : decode cX10_alike 69 = .ok (.iaload, 1) := by decide +kernel
theorem dX10_alike_70 : decode cX10_alike 70 = .ok (.ifCond .eq 32, 3) := by decide +kernel
theorem dX10_alike_73 : decode cX10_alike 73 = .ok (.aload_n 0, 1) := by decide +kernel
theorem dX10_alike_74 : decode cX10_alike 74 = .ok (.getfield 64, 3) := by decide +kernel
theorem dX10_alike_77 : decode cX10_alike 77 = .ok (.iload 5, 2) := by decide +kernel
theorem dX10_alike_79 : decode cX10_alike 79 = .ok (.iaload, 1) := by decide +kernel
theorem dX10_alike_80 : decode cX10_alike 80 = .ok (.aload_n 0, 1) := by decide +kernel
theorem dX10_alike_81 : decode cX10_alike 81 = .ok (.getfield 64, 3) := by decide +kernel
theorem dX10_alike_84 : decode cX10_alike 84 = .ok (.iload 6, 2) := by decide +kernel
theorem dX10_alike_86 : decode cX10_alike 86 = .ok (.iaload, 1) := by decide +kernel
theorem dX10_alike_87 : decode cX10_alike 87 = .ok (.if_icmp .ne 15, 3) := by decide +kernel
theorem dX10_alike_90 : decode cX10_alike 90 = .ok (.aload_n 0, 1) := by decide +kernel
theorem dX10_alike_91 : decode cX10_alike 91 = .ok (.getfield 64, 3) := by decide +kernel
theorem dX10_alike_94 : decode cX10_alike 94 = .ok (.iload 5, 2) := by decide +kernel
theorem dX10_alike_96 : decode cX10_alike 96 = .ok (.iaload, 1) := by decide +kernel
theorem dX10_alike_97 : decode cX10_alike 97 = .ok (.iload 4, 2) := by decide +kernel
theorem dX10_alike_99 : decode cX10_alike 99 = .ok (.if_icmp .ge 5, 3) := by decide +kernel
theorem dX10_alike_102 : decode cX10_alike 102 = .ok (.iconst 0, 1) := by decide +kernel
theorem dX10_alike_103 : decode cX10_alike 103 = .ok (.ireturn, 1) := by decide +kernel
theorem dX10_alike_104 : decode cX10_alike 104 = .ok (.iconst 0, 1) := by decide +kernel
theorem dX10_alike_105 : decode cX10_alike 105 = .ok (.istore 7, 2) := by decide +kernel
theorem dX10_alike_107 : decode cX10_alike 107 = .ok (.iload 7, 2) := by decide +kernel
theorem dX10_alike_109 : decode cX10_alike 109 = .ok (.aload_n 0, 1) := by decide +kernel
theorem dX10_alike_110 : decode cX10_alike 110 = .ok (.getfield 64, 3) := by decide +kernel
theorem dX10_alike_113 : decode cX10_alike 113 = .ok (.iload 5, 2) := by decide +kernel
theorem dX10_alike_115 : decode cX10_alike 115 = .ok (.iaload, 1) := by decide +kernel
theorem dX10_alike_116 : decode cX10_alike 116 = .ok (.if_icmp .ge 40, 3) := by decide +kernel
theorem dX10_alike_119 : decode cX10_alike 119 = .ok (.aload_n 0, 1) := by decide +kernel
theorem dX10_alike_120 : decode cX10_alike 120 = .ok (.getfield 67, 3) := by decide +kernel
theorem dX10_alike_123 : decode cX10_alike 123 = .ok (.bipush 120, 2) := by decide +kernel
theorem dX10_alike_125 : decode cX10_alike 125 = .ok (.iload 5, 2) := by decide +kernel
theorem dX10_alike_127 : decode cX10_alike 127 = .ok (.imul, 1) := by decide +kernel
theorem dX10_alike_128 : decode cX10_alike 128 = .ok (.iload 7, 2) := by decide +kernel
theorem dX10_alike_130 : decode cX10_alike 130 = .ok (.iadd, 1) := by decide +kernel
theorem dX10_alike_131 : decode cX10_alike 131 = .ok (.iaload, 1) := by decide +kernel
theorem dX10_alike_132 : decode cX10_alike 132 = .ok (.aload_n 0, 1) := by decide +kernel
theorem dX10_alike_133 : decode cX10_alike 133 = .ok (.getfield 67, 3) := by decide +kernel
theorem dX10_alike_136 : decode cX10_alike 136 = .ok (.bipush 120, 2) := by decide +kernel
theorem dX10_alike_138 : decode cX10_alike 138 = .ok (.iload 6, 2) := by decide +kernel
theorem dX10_alike_140 : decode cX10_alike 140 = .ok (.imul, 1) := by decide +kernel
theorem dX10_alike_141 : decode cX10_alike 141 = .ok (.iload 7, 2) := by decide +kernel
theorem dX10_alike_143 : decode cX10_alike 143 = .ok (.iadd, 1) := by decide +kernel
theorem dX10_alike_144 : decode cX10_alike 144 = .ok (.iaload, 1) := by decide +kernel
theorem dX10_alike_145 : decode cX10_alike 145 = .ok (.if_icmp .eq 5, 3) := by decide +kernel
theorem dX10_alike_148 : decode cX10_alike 148 = .ok (.iconst 0, 1) := by decide +kernel
theorem dX10_alike_149 : decode cX10_alike 149 = .ok (.ireturn, 1) := by decide +kernel
theorem dX10_alike_150 : decode cX10_alike 150 = .ok (.iinc 7 1, 3) := by decide +kernel
theorem dX10_alike_153 : decode cX10_alike 153 = .ok (.goto (-46), 3) := by decide +kernel
theorem dX10_alike_156 : decode cX10_alike 156 = .ok (.iconst 1, 1) := by decide +kernel
theorem dX10_alike_157 : decode cX10_alike 157 = .ok (.ireturn, 1) := by decide +kernel
theorem dX10_count_0 : decode cX10_count 0 = .ok (.aload_n 0, 1) := by decide +kernel
theorem dX10_count_1 : decode cX10_count 1 = .ok (.iconst 0, 1) := by decide +kernel
theorem dX10_count_2 : decode cX10_count 2 = .ok (.putfield 79, 3) := by decide +kernel
theorem dX10_count_5 : decode cX10_count 5 = .ok (.iload_n 1, 1) := by decide +kernel
theorem dX10_count_6 : decode cX10_count 6 = .ok (.tableswitch 59 0 4 #[34, 39, 44, 49, 54], 34) := by decide +kernel
theorem dX10_count_40 : decode cX10_count 40 = .ok (.aload_n 0, 1) := by decide +kernel
theorem dX10_count_41 : decode cX10_count 41 = .ok (.getfield 245, 3) := by decide +kernel
theorem dX10_count_44 : decode cX10_count 44 = .ok (.ireturn, 1) := by decide +kernel
theorem dX10_count_45 : decode cX10_count 45 = .ok (.aload_n 0, 1) := by decide +kernel
theorem dX10_count_46 : decode cX10_count 46 = .ok (.getfield 184, 3) := by decide +kernel
theorem dX10_count_49 : decode cX10_count 49 = .ok (.ireturn, 1) := by decide +kernel
theorem dX10_count_50 : decode cX10_count 50 = .ok (.aload_n 0, 1) := by decide +kernel
theorem dX10_count_51 : decode cX10_count 51 = .ok (.getfield 187, 3) := by decide +kernel
theorem dX10_count_54 : decode cX10_count 54 = .ok (.ireturn, 1) := by decide +kernel
theorem dX10_count_55 : decode cX10_count 55 = .ok (.aload_n 0, 1) := by decide +kernel
theorem dX10_count_56 : decode cX10_count 56 = .ok (.getfield 261, 3) := by decide +kernel
theorem dX10_count_59 : decode cX10_count 59 = .ok (.ireturn, 1) := by decide +kernel
theorem dX10_count_60 : decode cX10_count 60 = .ok (.aload_n 0, 1) := by decide +kernel
theorem dX10_count_61 : decode cX10_count 61 = .ok (.getfield 264, 3) := by decide +kernel
theorem dX10_count_64 : decode cX10_count 64 = .ok (.ireturn, 1) := by decide +kernel
theorem dX10_count_65 : decode cX10_count 65 = .ok (.iconst (-1), 1) := by decide +kernel
theorem dX10_count_66 : decode cX10_count 66 = .ok (.ireturn, 1) := by decide +kernel
