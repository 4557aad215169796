theorem dX10_passed_15 : decode cX10_passed 15 = .ok (.invokevirtual 248, 3) := by decide +kernel
theorem dX10_passed_18 : decode cX10_passed 18 = .ok (.ifCond .eq 7, 3) := by decide +kernel
theorem dX10_passed_21 : decode cX10_passed 21 = .ok (.iconst 1, 1) := by decide +kernel
theorem dX10_passed_22 : decode cX10_passed 22 = .ok (.goto 4, 3) := by decide +kernel
theorem dX10_passed_25 : decode cX10_passed 25 = .ok (.iconst 0, 1) := by decide +kernel
theorem dX10_passed_26 : decode cX10_passed 26 = .ok (.iconst 1, 1) := by decide +kernel
theorem dX10_passed_27 : decode cX10_passed 27 = .ok (.invokevirtual 180, 3) := by decide +kernel
theorem dX10_passed_30 : decode cX10_passed 30 = .ok (.ifCond .ne 21, 3) := by decide +kernel
theorem dX10_passed_33 : decode cX10_passed 33 = .ok (.aload_n 0, 1) := by decide +kernel
theorem dX10_passed_34 : decode cX10_passed 34 = .ok (.getfield 64, 3) := by decide +kernel
theorem dX10_passed_37 : decode cX10_passed 37 = .ok (.bipush 10, 2) := by decide +kernel
theorem dX10_passed_39 : decode cX10_passed 39 = .ok (.iload_n 1, 1) := by decide +kernel
theorem dX10_passed_40 : decode cX10_passed 40 = .ok (.imul, 1) := by decide +kernel
theorem dX10_passed_41 : decode cX10_passed 41 = .ok (.iload_n 2, 1) := by decide +kernel
theorem dX10_passed_42 : decode cX10_passed 42 = .ok (.iadd, 1) := by decide +kernel
theorem dX10_passed_43 : decode cX10_passed 43 = .ok (.iaload, 1) := by decide +kernel
theorem dX10_passed_44 : decode cX10_passed 44 = .ok (.ifCond .le 7, 3) := by decide +kernel
theorem dX10_passed_47 : decode cX10_passed 47 = .ok (.iconst 1, 1) := by decide +kernel
theorem dX10_passed_48 : decode cX10_passed 48 = .ok (.goto 4, 3) := by decide +kernel
theorem dX10_passed_51 : decode cX10_passed 51 = .ok (.iconst 0, 1) := by decide +kernel
theorem dX10_passed_52 : decode cX10_passed 52 = .ok (.ireturn, 1) := by decide +kernel
theorem dX10_cans_0 : decode cX10_cans 0 = .ok (.iconst 0, 1) := by decide +kernel
theorem dX10_cans_1 : decode cX10_cans 1 = .ok (.istore_n 2, 1) := by decide +kernel
theorem dX10_cans_2 : decode cX10_cans 2 = .ok (.iconst 0, 1) := by decide +kernel
theorem dX10_cans_3 : decode cX10_cans 3 = .ok (.istore_n 3, 1) := by decide +kernel
theorem dX10_cans_4 : decode cX10_cans 4 = .ok (.iload_n 3, 1) := by decide +kernel
theorem dX10_cans_5 : decode cX10_cans 5 = .ok (.bipush 8, 2) := by decide +kernel
theorem dX10_cans_7 : decode cX10_cans 7 = .ok (.if_icmp .ge 35, 3) := by decide +kernel
theorem dX10_cans_10 : decode cX10_cans 10 = .ok (.iload_n 2, 1) := by decide +kernel
theorem dX10_cans_11 : decode cX10_cans 11 = .ok (.aload_n 0, 1) := by decide +kernel
theorem dX10_cans_12 : decode cX10_cans 12 = .ok (.getfield 70, 3) := by decide +kernel
theorem dX10_cans_15 : decode cX10_cans 15 = .ok (.bipush 8, 2) := by decide +kernel
theorem dX10_cans_17 : decode cX10_cans 17 = .ok (.iload_n 1, 1) := by decide +kernel
theorem dX10_cans_18 : decode cX10_cans 18 = .ok (.imul, 1) := by decide +kernel
theorem dX10_cans_19 : decode cX10_cans 19 = .ok (.iload_n 3, 1) := by decide +kernel
theorem dX10_cans_20 : decode cX10_cans 20 = .ok (.iadd, 1) := by decide +kernel
theorem dX10_cans_21 : decode cX10_cans 21 = .ok (.iaload, 1) := by decide +kernel
theorem dX10_cans_22 : decode cX10_cans 22 = .ok (.bipush 32, 2) := by decide +kernel
theorem dX10_cans_24 : decode cX10_cans 24 = .ok (.if_icmp .lt 9, 3) := by decide +kernel
theorem dX10_cans_27 : decode cX10_cans 27 = .ok (.iconst 1, 1) := by decide +kernel
theorem dX10_cans_28 : decode cX10_cans 28 = .ok (.iload_n 3, 1) := by decide +kernel
theorem dX10_cans_29 : decode cX10_cans 29 = .ok (.ishl, 1) := by decide +kernel
theorem dX10_cans_30 : decode cX10_cans 30 = .ok (.goto 4, 3) := by decide +kernel
theorem dX10_cans_33 : decode cX10_cans 33 = .ok (.iconst 0, 1) := by decide +kernel
theorem dX10_cans_34 : decode cX10_cans 34 = .ok (.ior, 1) := by decide +kernel
theorem dX10_cans_35 : decode cX10_cans 35 = .ok (.istore_n 2, 1) := by decide +kernel
theorem dX10_cans_36 : decode cX10_cans 36 = .ok (.iinc 3 1, 3) := by decide +kernel
theorem dX10_cans_39 : decode cX10_cans 39 = .ok (.goto (-35), 3) := by decide +kernel
theorem dX10_cans_42 : decode cX10_cans 42 = .ok (.iload_n 2, 1) := by decide +kernel
theorem dX10_cans_43 : decode cX10_cans 43 = .ok (.ireturn, 1) := by decide +kernel
theorem dX10_next__0 : decode cX10_next_ 0 = .ok (.aload_n 0, 1) := by decide +kernel
theorem dX10_next__1 : decode cX10_next_ 1 = .ok (.iconst 0, 1) := by decide +kernel
theorem dX10_next__2 : decode cX10_next_ 2 = .ok (.putfield 79, 3) := by decide +kernel
theorem dX10_next__5 : decode cX10_next_ 5 = .ok (.aload_n 0, 1) := by decide +kernel
theorem dX10_next__6 : decode cX10_next_ 6 = .ok (.iload_n 1, 1) := by decide +kernel
theorem dX10_next__7 : decode cX10_next_ 7 = .ok (.invokestatic 258, 3) := by decide +kernel
theorem dX10_next__10 : decode cX10_next_ 10 = .ok (.iconst 1, 1) := by decide +kernel
theorem dX10_next__11 : decode cX10_next_ 11 = .ok (.invokevirtual 180, 3) := by decide +kernel
theorem dX10_next__14 : decode cX10_next_ 14 = .ok (.ifCond .eq 5, 3) := by decide +kernel
theorem dX10_next__17 : decode cX10_next_ 17 = .ok (.iconst 0, 1) := by decide +kernel
theorem dX10_next__18 : decode cX10_next_ 18 = .ok (.ireturn, 1) := by decide +kernel
theorem dX10_next__19 : decode cX10_next_ 19 = .ok (.aload_n 0, 1) := by decide +kernel
theorem dX10_next__20 : decode cX10_next_ 20 = .ok (.iload_n 1, 1) := by decide +kernel
theorem dX10_next__21 : decode cX10_next_ 21 = .ok (.invokevirtual 276, 3) := by decide +kernel
theorem dX10_next__24 : decode cX10_next_ 24 = .ok (.istore_n 2, 1) := by decide +kernel
theorem dX10_next__25 : decode cX10_next_ 25 = .ok (.iconst (-1), 1) := by decide +kernel
theorem dX10_next__26 : decode cX10_next_ 26 = .ok (.istore_n 3, 1) := by decide +kernel
theorem dX10_next__27 : decode cX10_next_ 27 = .ok (.iconst 0, 1) := by decide +kernel
theorem dX10_next__28 : decode cX10_next_ 28 = .ok (.istore 4, 2) := by decide +kernel
theorem dX10_next__30 : decode cX10_next_ 30 = .ok (.iconst 0, 1) := by decide +kernel
theorem dX10_next__31 : decode cX10_next_ 31 = .ok (.istore 5, 2) := by decide +kernel
theorem dX10_next__33 : decode cX10_next_ 33 = .ok (.iload 5, 2) := by decide +kernel
theorem dX10_next__35 : decode cX10_next_ 35 = .ok (.aload_n 0, 1) := by decide +kernel
theorem dX10_next__36 : decode cX10_next_ 36 = .ok (.getfield 245, 3) := by decide +kernel
theorem dX10_next__39 : decode cX10_next_ 39 = .ok (.if_icmp .ge 131, 3) := by decide +kernel
theorem dX10_next__42 : decode cX10_next_ 42 = .ok (.aload_n 0, 1) := by decide +kernel
theorem dX10_next__43 : decode cX10_next_ 43 = .ok (.getfield 49, 3) := by decide +kernel
theorem dX10_next__46 : decode cX10_next_ 46 = .ok (.iload 5, 2) := by decide +kernel
theorem dX10_next__48 : decode cX10_next_ 48 = .ok (.iaload, 1) := by decide +kernel
theorem dX10_next__49 : decode cX10_next_ 49 = .ok (.ifCond .eq 115, 3) := by decide +kernel
theorem dX10_next__52 : decode cX10_next_ 52 = .ok (.aload_n 0, 1) := by decide +kernel
theorem dX10_next__53 : decode cX10_next_ 53 = .ok (.getfield 64, 3) := by decide +kernel
theorem dX10_next__56 : decode cX10_next_ 56 = .ok (.bipush 10, 2) := by decide +kernel
theorem dX10_next__58 : decode cX10_next_ 58 = .ok (.iload_n 1, 1) := by decide +kernel
theorem dX10_next__59 : decode cX10_next_ 59 = .ok (.imul, 1) := by decide +kernel
theorem dX10_next__60 : decode cX10_next_ 60 = .ok (.iload 5, 2) := by decide +kernel
theorem dX10_next__62 : decode cX10_next_ 62 = .ok (.iadd, 1) := by decide +kernel
theorem dX10_next__63 : decode cX10_next_ 63 = .ok (.iaload, 1) := by decide +kernel
theorem dX10_next__64 : decode cX10_next_ 64 = .ok (.ifCond .gt 100, 3) := by decide +kernel
theorem dX10_next__67 : decode cX10_next_ 67 = .ok (.aload_n 0, 1) := by decide +kernel
theorem dX10_next__68 : decode cX10_next_ 68 = .ok (.getfield 43, 3) := by decide +kernel
theorem dX10_next__71 : decode cX10_next_ 71 = .ok (.iload 5, 2) := by decide +kernel
theorem dX10_next__73 : decode cX10_next_ 73 = .ok (.iaload, 1) := by decide +kernel
theorem dX10_next__74 : decode cX10_next_ 74 = .ok (.iload_n 2, 1) := by decide +kernel
theorem dX10_next__75 : decode cX10_next_ 75 = .ok (.iconst (-1), 1) := by decide +kernel
theorem dX10_next__76 : decode cX10_next_ 76 = .ok (.ixor, 1) := by decide +kernel
theorem dX10_next__77 : decode cX10_next_ 77 = .ok (.iand, 1) := by decide +kernel
theorem dX10_next__78 : decode cX10_next_ 78 = .ok (.ifCond .eq 6, 3) := by decide +kernel
theorem dX10_next__81 : decode cX10_next_ 81 = .ok (.goto 83, 3) := by decide +kernel
theorem dX10_next__84 : decode cX10_next_ 84 = .ok (.iconst 0, 1) := by decide +kernel
theorem dX10_next__85 : decode cX10_next_ 85 = .ok (.istore 6, 2) := by decide +kernel
theorem dX10_next__87 : decode cX10_next_ 87 = .ok (.iconst 0, 1) := by decide +kernel
theorem dX10_next__88 : decode cX10_next_ 88 = .ok (.istore 7, 2) := by decide +kernel
theorem dX10_next__90 : decode cX10_next_ 90 = .ok (.iload 7, 2) := by decide +kernel
theorem dX10_next__92 : decode cX10_next_ 92 = .ok (.bipush 8, 2) := by decide +kernel
theorem dX10_next__94 : decode cX10_next_ 94 = .ok (.if_icmp .ge 49, 3) := by decide +kernel
theorem dX10_next__97 : decode cX10_next_ 97 = .ok (.iload 6, 2) := by decide +kernel
theorem dX10_next__99 : decode cX10_next_ 99 = .ok (.aload_n 0, 1) := by decide +kernel
theorem dX10_next__100 : decode cX10_next_ 100 = .ok (.getfield 46, 3) := by decide +kernel
theorem dX10_next__103 : decode cX10_next_ 103 = .ok (.iload 5, 2) := by decide +kernel
theorem dX10_next__105 : decode cX10_next_ 105 = .ok (.iaload, 1) := by decide +kernel
theorem dX10_next__106 : decode cX10_next_ 106 = .ok (.iload 7, 2) := by decide +kernel
theorem dX10_next__108 : decode cX10_next_ 108 = .ok (.ishr, 1) := by decide +kernel
theorem dX10_next__109 : decode cX10_next_ 109 = .ok (.iconst 1, 1) := by decide +kernel
theorem dX10_next__110 : decode cX10_next_ 110 = .ok (.iand, 1) := by decide +kernel
theorem dX10_next__111 : decode cX10_next_ 111 = .ok (.iconst 1, 1) := by decide +kernel
theorem dX10_next__112 : decode cX10_next_ 112 = .ok (.if_icmp .ne 21, 3) := by decide +kernel
theorem dX10_next__115 : decode cX10_next_ 115 = .ok (.bipush 64, 2) := by decide +kernel
theorem dX10_next__117 : decode cX10_next_ 117 = .ok (.aload_n 0, 1) := by decide +kernel
theorem dX10_next__118 : decode cX10_next_ 118 = .ok (.getfield 70, 3) := by decide +kernel
theorem dX10_next__121 : decode cX10_next_ 121 = .ok (.bipush 8, 2) := by decide +kernel
theorem dX10_next__123 : decode cX10_next_ 123 = .ok (.iload_n 1, 1) := by decide +kernel
theorem dX10_next__124 : decode cX10_next_ 124 = .ok (.imul, 1) := by decide +kernel
theorem dX10_next__125 : decode cX10_next_ 125 = .ok (.iload 7, 2) := by decide +kernel
theorem dX10_next__127 : decode cX10_next_ 127 = .ok (.iadd, 1) := by decide +kernel
theorem dX10_next__128 : decode cX10_next_ 128 = .ok (.iaload, 1) := by decide +kernel
theorem dX10_next__129 : decode cX10_next_ 129 = .ok (.isub, 1) := by decide +kernel
theorem dX10_next__130 : decode cX10_next_ 130 = .ok (.goto 4, 3) := by decide +kernel
theorem dX10_next__133 : decode cX10_next_ 133 = .ok (.iconst 0, 1) := by decide +kernel
theorem dX10_next__134 : decode cX10_next_ 134 = .ok (.iadd, 1) := by decide +kernel
theorem dX10_next__135 : decode cX10_next_ 135 = .ok (.istore 6, 2) := by decide +kernel
theorem dX10_next__137 : decode cX10_next_ 137 = .ok (.iinc 7 1, 3) := by decide +kernel
theorem dX10_next__140 : decode cX10_next_ 140 = .ok (.goto (-50), 3) := by decide +kernel
theorem dX10_next__143 : decode cX10_next_ 143 = .ok (.iload_n 3, 1) := by decide +kernel
theorem dX10_next__144 : decode cX10_next_ 144 = .ok (.ifCond .lt 13, 3) := by decide +kernel
theorem dX10_next__147 : decode cX10_next_ 147 = .ok (.iload 6, 2) := by decide +kernel
theorem dX10_next__149 : decode cX10_next_ 149 = .ok (.iload 4, 2) := by decide +kernel
theorem dX10_next__151 : decode cX10_next_ 151 = .ok (.if_icmp .gt 6, 3) := by decide +kernel
theorem dX10_next__154 : decode cX10_next_ 154 = .ok (.goto 10, 3) := by decide +kernel
theorem dX10_next__157 : decode cX10_next_ 157 = .ok (.iload 5, 2) := by decide +kernel
theorem dX10_next__159 : decode cX10_next_ 159 = .ok (.istore_n 3, 1) := by decide +kernel
theorem dX10_next__160 : decode cX10_next_ 160 = .ok (.iload 6, 2) := by decide +kernel
theorem dX10_next__162 : decode cX10_next_ 162 = .ok (.istore 4, 2) := by decide +kernel
theorem dX10_next__164 : decode cX10_next_ 164 = .ok (.iinc 5 1, 3) := by decide +kernel
theorem dX10_next__167 : decode cX10_next_ 167 = .ok (.goto (-134), 3) := by decide +kernel
theorem dX10_next__170 : decode cX10_next_ 170 = .ok (.iload_n 3, 1) := by decide +kernel
theorem dX10_next__171 : decode cX10_next_ 171 = .ok (.ireturn, 1) := by decide +kernel
theorem dX10_wish_0 : decode cX10_wish 0 = .ok (.aload_n 0, 1) := by decide +kernel
theorem dX10_wish_1 : decode cX10_wish 1 = .ok (.iconst 0, 1) := by decide +kernel
theorem dX10_wish_2 : decode cX10_wish 2 = .ok (.putfield 79, 3) := by decide +kernel
theorem dX10_wish_5 : decode cX10_wish 5 = .ok (.aload_n 0, 1) := by decide +kernel
theorem dX10_wish_6 : decode cX10_wish 6 = .ok (.iload_n 1, 1) := by decide +kernel
theorem dX10_wish_7 : decode cX10_wish 7 = .ok (.invokestatic 258, 3) := by decide +kernel
theorem dX10_wish_10 : decode cX10_wish 10 = .ok (.ifCond .ne 13, 3) := by decide +kernel
theorem dX10_wish_13 : decode cX10_wish 13 = .ok (.iload_n 2, 1) := by decide +kernel
theorem dX10_wish_14 : decode cX10_wish 14 = .ok (.iconst 0, 1) := by decide +kernel
theorem dX10_wish_15 : decode cX10_wish 15 = .ok (.bipush 7, 2) := by decide +kernel
theorem dX10_wish_17 : decode cX10_wish 17 = .ok (.invokestatic 104, 3) := by decide +kernel
theorem dX10_wish_20 : decode cX10_wish 20 = .ok (.ifCond .ne 7, 3) := by decide +kernel
theorem dX10_wish_23 : decode cX10_wish 23 = .ok (.iconst 1, 1) := by decide +kernel
theorem dX10_wish_24 : decode cX10_wish 24 = .ok (.goto 4, 3) := by decide +kernel
theorem dX10_wish_27 : decode cX10_wish 27 = .ok (.iconst 0, 1) := by decide +kernel
theorem dX10_wish_28 : decode cX10_wish 28 = .ok (.iconst 1, 1) := by decide +kernel
theorem dX10_wish_29 : decode cX10_wish 29 = .ok (.invokevirtual 180, 3) := by decide +kernel
theorem dX10_wish_32 : decode cX10_wish 32 = .ok (.ifCond .eq 5, 3) := by decide +kernel
theorem dX10_wish_35 : decode cX10_wish 35 = .ok (.iconst 0, 1) := by decide +kernel
theorem dX10_wish_36 : decode cX10_wish 36 = .ok (.ireturn, 1) := by decide +kernel
theorem dX10_wish_37 : decode cX10_wish 37 = .ok (.iconst 0, 1) := by decide +kernel
theorem dX10_wish_38 : decode cX10_wish 38 = .ok (.istore_n 3, 1) := by decide +kernel
theorem dX10_wish_39 : decode cX10_wish 39 = .ok (.iload_n 3, 1) := by decide +kernel
theorem dX10_wish_40 : decode cX10_wish 40 = .ok (.sipush 256, 3) := by decide +kernel
theorem dX10_wish_43 : decode cX10_wish 43 = .ok (.if_icmp .ge 16, 3) := by decide +kernel
theorem dX10_wish_46 : decode cX10_wish 46 = .ok (.aload_n 0, 1) := by decide +kernel
theorem dX10_wish_47 : decode cX10_wish 47 = .ok (.getfield 73, 3) := by decide +kernel
theorem dX10_wish_50 : decode cX10_wish 50 = .ok (.iload_n 3, 1) := by decide +kernel
theorem dX10_wish_51 : decode cX10_wish 51 = .ok (.iconst (-1), 1) := by decide +kernel
theorem dX10_wish_52 : decode cX10_wish 52 = .ok (.iastore, 1) := by decide +kernel
theorem dX10_wish_53 : decode cX10_wish 53 = .ok (.iinc 3 1, 3) := by decide +kernel
theorem dX10_wish_56 : decode cX10_wish 56 = .ok (.goto (-17), 3) := by decide +kernel
theorem dX10_wish_59 : decode cX10_wish 59 = .ok (.aload_n 0, 1) := by decide +kernel
theorem dX10_wish_60 : decode cX10_wish 60 = .ok (.getfield 73, 3) := by decide +kernel
theorem dX10_wish_63 : decode cX10_wish 63 = .ok (.aload_n 0, 1) := by decide +kernel
theorem dX10_wish_64 : decode cX10_wish 64 = .ok (.iload_n 1, 1) := by decide +kernel
theorem dX10_wish_65 : decode cX10_wish 65 = .ok (.invokevirtual 276, 3) := by decide +kernel
theorem dX10_wish_68 : decode cX10_wish 68 = .ok (.iconst 0, 1) := by decide +kernel
theorem dX10_wish_69 : decode cX10_wish 69 = .ok (.iastore, 1) := by decide +kernel
theorem dX10_wish_70 : decode cX10_wish 70 = .ok (.iconst 0, 1) := by decide +kernel
theorem dX10_wish_71 : decode cX10_wish 71 = .ok (.istore_n 3, 1) := by decide +kernel
theorem dX10_wish_72 : decode cX10_wish 72 = .ok (.iload_n 3, 1) := by decide +kernel
theorem dX10_wish_73 : decode cX10_wish 73 = .ok (.sipush 256, 3) := by decide +kernel
theorem dX10_wish_76 : decode cX10_wish 76 = .ok (.if_icmp .ge 134, 3) := by decide +kernel
theorem dX10_wish_79 : decode cX10_wish 79 = .ok (.iconst 0, 1) := by decide +kernel
theorem dX10_wish_80 : decode cX10_wish 80 = .ok (.istore 4, 2) := by decide +kernel
theorem dX10_wish_82 : decode cX10_wish 82 = .ok (.iconst 0, 1) := by decide +kernel
theorem dX10_wish_83 : decode cX10_wish 83 = .ok (.istore 5, 2) := by decide +kernel
theorem dX10_wish_85 : decode cX10_wish 85 = .ok (.iload 5, 2) := by decide +kernel
theorem dX10_wish_87 : decode cX10_wish 87 = .ok (.sipush 256, 3) := by decide +kernel
theorem dX10_wish_90 : decode cX10_wish 90 = .ok (.if_icmp .ge 107, 3) := by decide +kernel
theorem dX10_wish_93 : decode cX10_wish 93 = .ok (.aload_n 0, 1) := by decide +kernel
theorem dX10_wish_94 : decode cX10_wish 94 = .ok (.getfield 73, 3) := by decide +kernel
theorem dX10_wish_97 : decode cX10_wish 97 = .ok (.iload 5, 2) := by decide +kernel
theorem dX10_wish_99 : decode cX10_wish 99 = .ok (.iaload, 1) := by decide +kernel
theorem dX10_wish_100 : decode cX10_wish 100 = .ok (.iload_n 3, 1) := by decide +kernel
theorem dX10_wish_101 : decode cX10_wish 101 = .ok (.if_icmp .eq 6, 3) := by decide +kernel
theorem dX10_wish_104 : decode cX10_wish 104 = .ok (.goto 87, 3) := by decide +kernel
theorem dX10_wish_107 : decode cX10_wish 107 = .ok (.iload 5, 2) := by decide +kernel
theorem dX10_wish_109 : decode cX10_wish 109 = .ok (.iload_n 2, 1) := by decide +kernel
theorem dX10_wish_110 : decode cX10_wish 110 = .ok (.ishr, 1) := by decide +kernel
theorem dX10_wish_111 : decode cX10_wish 111 = .ok (.iconst 1, 1) := by decide +kernel
theorem dX10_wish_112 : decode cX10_wish 112 = .ok (.iand, 1) := by decide +kernel
theorem dX10_wish_113 : decode cX10_wish 113 = .ok (.iconst 1, 1) := by decide +kernel
theorem dX10_wish_114 : decode cX10_wish 114 = .ok (.if_icmp .ne 5, 3) := by decide +kernel
theorem dX10_wish_117 : decode cX10_wish 117 = .ok (.iload_n 3, 1) := by decide +kernel
theorem dX10_wish_118 : decode cX10_wish 118 = .ok (.ireturn, 1) := by decide +kernel
theorem dX10_wish_119 : decode cX10_wish 119 = .ok (.iconst 1, 1) := by decide +kernel
theorem dX10_wish_120 : decode cX10_wish 120 = .ok (.istore 4, 2) := by decide +kernel
theorem dX10_wish_122 : decode cX10_wish 122 = .ok (.iconst 0, 1) := by decide +kernel
theorem dX10_wish_123 : decode cX10_wish 123 = .ok (.istore 6, 2) := by decide +kernel
theorem dX10_wish_125 : decode cX10_wish 125 = .ok (.iload 6, 2) := by decide +kernel
theorem dX10_wish_127 : decode cX10_wish 127 = .ok (.aload_n 0, 1) := by decide +kernel
theorem dX10_wish_128 : decode cX10_wish 128 = .ok (.getfield 245, 3) := by decide +kernel
theorem dX10_wish_131 : decode cX10_wish 131 = .ok (.if_icmp .ge 60, 3) := by decide +kernel
theorem dX10_wish_134 : decode cX10_wish 134 = .ok (.aload_n 0, 1) := by decide +kernel
theorem dX10_wish_135 : decode cX10_wish 135 = .ok (.getfield 43, 3) := by decide +kernel
theorem dX10_wish_138 : decode cX10_wish 138 = .ok (.iload 6, 2) := by decide +kernel
theorem dX10_wish_140 : decode cX10_wish 140 = .ok (.iaload, 1) := by decide +kernel
theorem dX10_wish_141 : decode cX10_wish 141 = .ok (.iload 5, 2) := by decide +kernel
theorem dX10_wish_143 : decode cX10_wish 143 = .ok (.iconst (-1), 1) := by decide +kernel
theorem dX10_wish_144 : decode cX10_wish 144 = .ok (.ixor, 1) := by decide +kernel
theorem dX10_wish_145 : decode cX10_wish 145 = .ok (.iand, 1) := by decide +kernel
theorem dX10_wish_146 : decode cX10_wish 146 = .ok (.ifCond .ne 39, 3) := by decide +kernel
theorem dX10_wish_149 : decode cX10_wish 149 = .ok (.aload_n 0, 1) := by decide +kernel
theorem dX10_wish_150 : decode cX10_wish 150 = .ok (.getfield 73, 3) := by decide +kernel
theorem dX10_wish_153 : decode cX10_wish 153 = .ok (.iload 5, 2) := by decide +kernel
theorem dX10_wish_155 : decode cX10_wish 155 = .ok (.aload_n 0, 1) := by decide +kernel
theorem dX10_wish_156 : decode cX10_wish 156 = .ok (.getfield 46, 3) := by decide +kernel
theorem dX10_wish_159 : decode cX10_wish 159 = .ok (.iload 6, 2) := by decide +kernel
theorem dX10_wish_161 : decode cX10_wish 161 = .ok (.iaload, 1) := by decide +kernel
theorem dX10_wish_162 : decode cX10_wish 162 = .ok (.ior, 1) := by decide +kernel
theorem dX10_wish_163 : decode cX10_wish 163 = .ok (.iaload, 1) := by decide +kernel
theorem dX10_wish_164 : decode cX10_wish 164 = .ok (.ifCond .ge 21, 3) := by decide +kernel
theorem dX10_wish_167 : decode cX10_wish 167 = .ok (.aload_n 0, 1) := by decide +kernel
theorem dX10_wish_168 : decode cX10_wish 168 = .ok (.getfield 73, 3) := by decide +kernel
theorem dX10_wish_171 : decode cX10_wish 171 = .ok (.iload 5, 2) := by decide +kernel
theorem dX10_wish_173 : decode cX10_wish 173 = .ok (.aload_n 0, 1) := by decide +kernel
theorem dX10_wish_174 : decode cX10_wish 174 = .ok (.getfield 46, 3) := by decide +kernel
theorem dX10_wish_177 : decode cX10_wish 177 = .ok (.iload 6, 2) := by decide +kernel
theorem dX10_wish_179 : decode cX10_wish 179 = .ok (.iaload, 1) := by decide +kernel
theorem dX10_wish_180 : decode cX10_wish 180 = .ok (.ior, 1) := by decide +kernel
theorem dX10_wish_181 : decode cX10_wish 181 = .ok (.iload_n 3, 1) := by decide +kernel
theorem dX10_wish_182 : decode cX10_wish 182 = .ok (.iconst 1, 1) := by decide +kernel
theorem dX10_wish_183 : decode cX10_wish 183 = .ok (.iadd, 1) := by decide +kernel
theorem dX10_wish_184 : decode cX10_wish 184 = .ok (.iastore, 1) := by decide +kernel
theorem dX10_wish_185 : decode cX10_wish 185 = .ok (.iinc 6 1, 3) := by decide +kernel
theorem dX10_wish_188 : decode cX10_wish 188 = .ok (.goto (-63), 3) := by decide +kernel
theorem dX10_wish_191 : decode cX10_wish 191 = .ok (.iinc 5 1, 3) := by decide +kernel
theorem dX10_wish_194 : decode cX10_wish 194 = .ok (.goto (-109), 3) := by decide +kernel
theorem dX10_wish_197 : decode cX10_wish 197 = .ok (.iload 4, 2) := by decide +kernel
theorem dX10_wish_199 : decode cX10_wish 199 = .ok (.ifCond .ne 5, 3) := by decide +kernel
theorem dX10_wish_202 : decode cX10_wish 202 = .ok (.iconst (-1), 1) := by decide +kernel
theorem dX10_wish_203 : decode cX10_wish 203 = .ok (.ireturn, 1) := by decide +kernel
theorem dX10_wish_204 : decode cX10_wish 204 = .ok (.iinc 3 1, 3) := by decide +kernel
theorem dX10_wish_207 : decode cX10_wish 207 = .ok (.goto (-135), 3) := by decide +kernel
theorem dX10_wish_210 : decode cX10_wish 210 = .ok (.iconst (-1), 1) := by decide +kernel
theorem dX10_wish_211 : decode cX10_wish 211 = .ok (.ireturn, 1) := by decide +kernel
theorem dX10_look__0 : decode cX10_look_ 0 = .ok (.aload_n 0, 1) := by decide +kernel
theorem dX10_look__1 : decode cX10_look_ 1 = .ok (.iconst 0, 1) := by decide +kernel
theorem dX10_look__2 : decode cX10_look_ 2 = .ok (.putfield 79, 3) := by decide +kernel
theorem dX10_look__5 : decode cX10_look_ 5 = .ok (.aload_n 0, 1) := by decide +kernel
theorem dX10_look__6 : decode cX10_look_ 6 = .ok (.aload_n 0, 1) := by decide +kernel
theorem dX10_look__7 : decode cX10_look_ 7 = .ok (.iload_n 1, 1) := by decide +kernel
theorem dX10_look__8 : decode cX10_look_ 8 = .ok (.invokevirtual 248, 3) := by decide +kernel
theorem dX10_look__11 : decode cX10_look_ 11 = .ok (.iconst 1, 1) := by decide +kernel
theorem dX10_look__12 : decode cX10_look_ 12 = .ok (.invokevirtual 180, 3) := by decide +kernel
theorem dX10_look__15 : decode cX10_look_ 15 = .ok (.ifCond .eq 5, 3) := by decide +kernel
theorem dX10_look__18 : decode cX10_look_ 18 = .ok (.iconst 0, 1) := by decide +kernel
theorem dX10_look__19 : decode cX10_look_ 19 = .ok (.ireturn, 1) := by decide +kernel
theorem dX10_look__20 : decode cX10_look_ 20 = .ok (.iload_n 2, 1) := by decide +kernel
theorem dX10_look__21 : decode cX10_look_ 21 = .ok (.tableswitch 106 0 4 #[35, 42, 49, 56, 63], 35) := by decide +kernel
theorem dX10_look__56 : decode cX10_look_ 56 = .ok (.aload_n 0, 1) := by decide +kernel
theorem dX10_look__57 : decode cX10_look_ 57 = .ok (.getfield 43, 3) := by decide +kernel
theorem dX10_look__60 : decode cX10_look_ 60 = .ok (.iload_n 1, 1) := by decide +kernel
theorem dX10_look__61 : decode cX10_look_ 61 = .ok (.iaload, 1) := by decide +kernel
theorem dX10_look__62 : decode cX10_look_ 62 = .ok (.ireturn, 1) := by decide +kernel
theorem dX10_look__63 : decode cX10_look_ 63 = .ok (.aload_n 0, 1) := by decide +kernel
theorem dX10_look__64 : decode cX10_look_ 64 = .ok (.getfield 46, 3) := by decide +kernel
theorem dX10_look__67 : decode cX10_look_ 67 = .ok (.iload_n 1, 1) := by decide +kernel
theorem dX10_look__68 : decode cX10_look_ 68 = .ok (.iaload, 1) := by decide +kernel
theorem dX10_look__69 : decode cX10_look_ 69 = .ok (.ireturn, 1) := by decide +kernel
theorem dX10_look__70 : decode cX10_look_ 70 = .ok (.aload_n 0, 1) := by decide +kernel
theorem dX10_look__71 : decode cX10_look_ 71 = .ok (.getfield 49, 3) := by decide +kernel
theorem dX10_look__74 : decode cX10_look_ 74 = .ok (.iload_n 1, 1) := by decide +kernel
theorem dX10_look__75 : decode cX10_look_ 75 = .ok (.iaload, 1) := by decide +kernel
theorem dX10_look__76 : decode cX10_look_ 76 = .ok (.ireturn, 1) := by decide +kernel
theorem dX10_look__77 : decode cX10_look_ 77 = .ok (.aload_n 0, 1) := by decide +kernel
theorem dX10_look__78 : decode cX10_look_ 78 = .ok (.getfield 55, 3) := by decide +kernel
theorem dX10_look__81 : decode cX10_look_ 81 = .ok (.iload_n 1, 1) := by decide +kernel
theorem dX10_look__82 : decode cX10_look_ 82 = .ok (.iaload, 1) := by decide +kernel
theorem dX10_look__83 : decode cX10_look_ 83 = .ok (.ireturn, 1) := by decide +kernel
theorem dX10_look__84 : decode cX10_look_ 84 = .ok (.iconst 0, 1) := by decide +kernel
theorem dX10_look__85 : decode cX10_look_ 85 = .ok (.istore_n 3, 1) := by decide +kernel
theorem dX10_look__86 : decode cX10_look_ 86 = .ok (.iconst 0, 1) := by decide +kernel
theorem dX10_look__87 : decode cX10_look_ 87 = .ok (.istore 4, 2) := by decide +kernel
theorem dX10_look__89 : decode cX10_look_ 89 = .ok (.iload 4, 2) := by decide +kernel
theorem dX10_look__91 : decode cX10_look_ 91 = .ok (.bipush 8, 2) := by decide +kernel
theorem dX10_look__93 : decode cX10_look_ 93 = .ok (.if_icmp .ge 32, 3) := by decide +kernel
theorem dX10_look__96 : decode cX10_look_ 96 = .ok (.iload_n 3, 1) := by decide +kernel
theorem dX10_look__97 : decode cX10_look_ 97 = .ok (.aload_n 0, 1) := by decide +kernel
theorem dX10_look__98 : decode cX10_look_ 98 = .ok (.getfield 64, 3) := by decide +kernel
theorem dX10_look__101 : decode cX10_look_ 101 = .ok (.bipush 10, 2) := by decide +kernel
theorem dX10_look__103 : decode cX10_look_ 103 = .ok (.iload 4, 2) := by decide +kernel
theorem dX10_look__105 : decode cX10_look_ 105 = .ok (.imul, 1) := by decide +kernel
theorem dX10_look__106 : decode cX10_look_ 106 = .ok (.iload_n 1, 1) := by decide +kernel
theorem dX10_look__107 : decode cX10_look_ 107 = .ok (.iadd, 1) := by decide +kernel
theorem dX10_look__108 : decode cX10_look_ 108 = .ok (.iaload, 1) := by decide +kernel
theorem dX10_look__109 : decode cX10_look_ 109 = .ok (.ifCond .le 7, 3) := by decide +kernel
theorem dX10_look__112 : decode cX10_look_ 112 = .ok (.iconst 1, 1) := by decide +kernel
theorem dX10_look__113 : decode cX10_look_ 113 = .ok (.goto 4, 3) := by decide +kernel
theorem dX10_look__116 : decode cX10_look_ 116 = .ok (.iconst 0, 1) := by decide +kernel
theorem dX10_look__117 : decode cX10_look_ 117 = .ok (.iadd, 1) := by decide +kernel
theorem dX10_look__118 : decode cX10_look_ 118 = .ok (.istore_n 3, 1) := by decide +kernel
theorem dX10_look__119 : decode cX10_look_ 119 = .ok (.iinc 4 1, 3) := by decide +kernel
theorem dX10_look__122 : decode cX10_look_ 122 = .ok (.goto (-33), 3) := by decide +kernel
theorem dX10_look__125 : decode cX10_look_ 125 = .ok (.iload_n 3, 1) := by decide +kernel
theorem dX10_look__126 : decode cX10_look_ 126 = .ok (.ireturn, 1) := by decide +kernel
theorem dX10_look__127 : decode cX10_look_ 127 = .ok (.aload_n 0, 1) := by decide +kernel
theorem dX10_look__128 : decode cX10_look_ 128 = .ok (.iconst 2, 1) := by decide +kernel
theorem dX10_look__129 : decode cX10_look_ 129 = .ok (.putfield 79, 3) := by decide +kernel
theorem dX10_look__132 : decode cX10_look_ 132 = .ok (.iconst 0, 1) := by decide +kernel
theorem dX10_look__133 : decode cX10_look_ 133 = .ok (.ireturn, 1) := by decide +kernel
theorem dX10_placeOf_0 : decode cX10_placeOf 0 = .ok (.bipush 121, 2) := by decide +kernel
theorem dX10_placeOf_2 : decode cX10_placeOf 2 = .ok (.iload_n 0, 1) := by decide +kernel
theorem dX10_placeOf_3 : decode cX10_placeOf 3 = .ok (.imul, 1) := by decide +kernel
theorem dX10_placeOf_4 : decode cX10_placeOf 4 = .ok (.iload_n 1, 1) := by decide +kernel
theorem dX10_placeOf_5 : decode cX10_placeOf 5 = .ok (.iadd, 1) := by decide +kernel
theorem dX10_placeOf_6 : decode cX10_placeOf 6 = .ok (.ireturn, 1) := by decide +kernel
theorem dX10_changes_0 : decode cX10_changes 0 = .ok (.aload_n 0, 1) := by decide +kernel
theorem dX10_changes_1 : decode cX10_changes 1 = .ok (.getfield 58, 3) := by decide +kernel
theorem dX10_changes_4 : decode cX10_changes 4 = .ok (.iload_n 1, 1) := by decide +kernel
theorem dX10_changes_5 : decode cX10_changes 5 = .ok (.iaload, 1) := by decide +kernel
theorem dX10_changes_6 : decode cX10_changes 6 = .ok (.istore_n 2, 1) := by decide +kernel
theorem dX10_changes_7 : decode cX10_changes 7 = .ok (.aload_n 0, 1) := by decide +kernel
theorem dX10_changes_8 : decode cX10_changes 8 = .ok (.getfield 184, 3) := by decide +kernel
theorem dX10_changes_11 : decode cX10_changes 11 = .ok (.istore_n 3, 1) := by decide +kernel
theorem dX10_changes_12 : decode cX10_changes 12 = .ok (.iload_n 3, 1) := by decide +kernel
theorem dX10_changes_13 : decode cX10_changes 13 = .ok (.ifCond .lt 165, 3) := by decide +kernel
theorem dX10_changes_16 : decode cX10_changes 16 = .ok (.iload_n 2, 1) := by decide +kernel
theorem dX10_changes_17 : decode cX10_changes 17 = .ok (.istore 4, 2) := by decide +kernel
theorem dX10_changes_19 : decode cX10_changes 19 = .ok (.iload 4, 2) := by decide +kernel
theorem dX10_changes_21 : decode cX10_changes 21 = .ok (.ifCond .lt 151, 3) := by decide +kernel
theorem dX10_changes_24 : decode cX10_changes 24 = .ok (.iload_n 3, 1) := by decide +kernel
theorem dX10_changes_25 : decode cX10_changes 25 = .ok (.aload_n 0, 1) := by decide +kernel
theorem dX10_changes_26 : decode cX10_changes 26 = .ok (.getfield 184, 3) := by decide +kernel
theorem dX10_changes_29 : decode cX10_changes 29 = .ok (.if_icmp .ne 10, 3) := by decide +kernel
theorem dX10_changes_32 : decode cX10_changes 32 = .ok (.iload_n 2, 1) := by decide +kernel
theorem dX10_changes_33 : decode cX10_changes 33 = .ok (.iload 4, 2) := by decide +kernel
theorem dX10_changes_35 : decode cX10_changes 35 = .ok (.isub, 1) := by decide +kernel
theorem dX10_changes_36 : decode cX10_changes 36 = .ok (.goto 19, 3) := by decide +kernel
theorem dX10_changes_39 : decode cX10_changes 39 = .ok (.iload 4, 2) := by decide +kernel
theorem dX10_changes_41 : decode cX10_changes 41 = .ok (.iload_n 2, 1) := by decide +kernel
theorem dX10_changes_42 : decode cX10_changes 42 = .ok (.if_icmp .ne 12, 3) := by decide +kernel
theorem dX10_changes_45 : decode cX10_changes 45 = .ok (.aload_n 0, 1) := by decide +kernel
theorem dX10_changes_46 : decode cX10_changes 46 = .ok (.getfield 184, 3) := by decide +kernel
theorem dX10_changes_49 : decode cX10_changes 49 = .ok (.iload_n 3, 1) := by decide +kernel
theorem dX10_changes_50 : decode cX10_changes 50 = .ok (.isub, 1) := by decide +kernel
theorem dX10_changes_51 : decode cX10_changes 51 = .ok (.goto 4, 3) := by decide +kernel
theorem dX10_changes_54 : decode cX10_changes 54 = .ok (.iconst 0, 1) := by decide +kernel
theorem dX10_changes_55 : decode cX10_changes 55 = .ok (.istore 5, 2) := by decide +kernel
theorem dX10_changes_57 : decode cX10_changes 57 = .ok (.iload_n 3, 1) := by decide +kernel
theorem dX10_changes_58 : decode cX10_changes 58 = .ok (.aload_n 0, 1) := by decide +kernel
theorem dX10_changes_59 : decode cX10_changes 59 = .ok (.getfield 184, 3) := by decide +kernel
theorem dX10_changes_62 : decode cX10_changes 62 = .ok (.if_icmp .ge 91, 3) := by decide +kernel
theorem dX10_changes_65 : decode cX10_changes 65 = .ok (.iload 4, 2) := by decide +kernel
theorem dX10_changes_67 : decode cX10_changes 67 = .ok (.iload_n 2, 1) := by decide +kernel
theorem dX10_changes_68 : decode cX10_changes 68 = .ok (.if_icmp .ge 85, 3) := by decide +kernel
theorem dX10_changes_71 : decode cX10_changes 71 = .ok (.aload_n 0, 1) := by decide +kernel
theorem dX10_changes_72 : decode cX10_changes 72 = .ok (.getfield 76, 3) := by decide +kernel
theorem dX10_changes_75 : decode cX10_changes 75 = .ok (.iload_n 3, 1) := by decide +kernel
theorem dX10_changes_76 : decode cX10_changes 76 = .ok (.iconst 1, 1) := by decide +kernel
theorem dX10_changes_77 : decode cX10_changes 77 = .ok (.iadd, 1) := by decide +kernel
theorem dX10_changes_78 : decode cX10_changes 78 = .ok (.iload 4, 2) := by decide +kernel
theorem dX10_changes_80 : decode cX10_changes 80 = .ok (.iconst 1, 1) := by decide +kernel
theorem dX10_changes_81 : decode cX10_changes 81 = .ok (.iadd, 1) := by decide +kernel
theorem dX10_changes_82 : decode cX10_changes 82 = .ok (.invokestatic 280, 3) := by decide +kernel
theorem dX10_changes_85 : decode cX10_changes 85 = .ok (.iaload, 1) := by decide +kernel
theorem dX10_changes_86 : decode cX10_changes 86 = .ok (.aload_n 0, 1) := by decide +kernel
theorem dX10_changes_87 : decode cX10_changes 87 = .ok (.getfield 24, 3) := by decide +kernel
theorem dX10_changes_90 : decode cX10_changes 90 = .ok (.iload_n 3, 1) := by decide +kernel
theorem dX10_changes_91 : decode cX10_changes 91 = .ok (.iaload, 1) := by decide +kernel
theorem dX10_changes_92 : decode cX10_changes 92 = .ok (.aload_n 0, 1) := by decide +kernel
theorem dX10_changes_93 : decode cX10_changes 93 = .ok (.getfield 61, 3) := by decide +kernel
theorem dX10_changes_96 : decode cX10_changes 96 = .ok (.bipush 120, 2) := by decide +kernel
theorem dX10_changes_98 : decode cX10_changes 98 = .ok (.iload_n 1, 1) := by decide +kernel
theorem dX10_changes_99 : decode cX10_changes 99 = .ok (.imul, 1) := by decide +kernel
theorem dX10_changes_100 : decode cX10_changes 100 = .ok (.iload 4, 2) := by decide +kernel
theorem dX10_changes_102 : decode cX10_changes 102 = .ok (.iadd, 1) := by decide +kernel
theorem dX10_changes_103 : decode cX10_changes 103 = .ok (.iaload, 1) := by decide +kernel
theorem dX10_changes_104 : decode cX10_changes 104 = .ok (.if_icmp .ne 7, 3) := by decide +kernel
theorem dX10_changes_107 : decode cX10_changes 107 = .ok (.iconst 0, 1) := by decide +kernel
theorem dX10_changes_108 : decode cX10_changes 108 = .ok (.goto 4, 3) := by decide +kernel
