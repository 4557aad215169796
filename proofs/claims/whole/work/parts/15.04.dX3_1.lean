theorem dX3_here_0 : decode cX3_here 0 = .ok (.aload_n 0, 1) := by decide +kernel
theorem dX3_here_1 : decode cX3_here 1 = .ok (.getfield 33, 3) := by decide +kernel
theorem dX3_here_4 : decode cX3_here 4 = .ok (.bipush 120, 2) := by decide +kernel
theorem dX3_here_6 : decode cX3_here 6 = .ok (.if_icmp .gt 18, 3) := by decide +kernel
theorem dX3_here_9 : decode cX3_here 9 = .ok (.aload_n 0, 1) := by decide +kernel
theorem dX3_here_10 : decode cX3_here 10 = .ok (.getfield 12, 3) := by decide +kernel
theorem dX3_here_13 : decode cX3_here 13 = .ok (.getfield 92, 3) := by decide +kernel
theorem dX3_here_16 : decode cX3_here 16 = .ok (.aload_n 0, 1) := by decide +kernel
theorem dX3_here_17 : decode cX3_here 17 = .ok (.getfield 33, 3) := by decide +kernel
theorem dX3_here_20 : decode cX3_here 20 = .ok (.iaload, 1) := by decide +kernel
theorem dX3_here_21 : decode cX3_here 21 = .ok (.goto 5, 3) := by decide +kernel
theorem dX3_here_24 : decode cX3_here 24 = .ok (.bipush (-2), 2) := by decide +kernel
theorem dX3_here_26 : decode cX3_here 26 = .ok (.ireturn, 1) := by decide +kernel
theorem dX3_take_0 : decode cX3_take 0 = .ok (.aload_n 0, 1) := by decide +kernel
theorem dX3_take_1 : decode cX3_take 1 = .ok (.getfield 33, 3) := by decide +kernel
theorem dX3_take_4 : decode cX3_take 4 = .ok (.bipush 120, 2) := by decide +kernel
theorem dX3_take_6 : decode cX3_take 6 = .ok (.if_icmp .gt 19, 3) := by decide +kernel
theorem dX3_take_9 : decode cX3_take 9 = .ok (.aload_n 0, 1) := by decide +kernel
theorem dX3_take_10 : decode cX3_take 10 = .ok (.getfield 12, 3) := by decide +kernel
theorem dX3_take_13 : decode cX3_take 13 = .ok (.getfield 92, 3) := by decide +kernel
theorem dX3_take_16 : decode cX3_take 16 = .ok (.aload_n 0, 1) := by decide +kernel
theorem dX3_take_17 : decode cX3_take 17 = .ok (.getfield 33, 3) := by decide +kernel
theorem dX3_take_20 : decode cX3_take 20 = .ok (.iaload, 1) := by decide +kernel
theorem dX3_take_21 : decode cX3_take 21 = .ok (.iload_n 1, 1) := by decide +kernel
theorem dX3_take_22 : decode cX3_take 22 = .ok (.if_icmp .eq 5, 3) := by decide +kernel
theorem dX3_take_25 : decode cX3_take 25 = .ok (.iconst 0, 1) := by decide +kernel
theorem dX3_take_26 : decode cX3_take 26 = .ok (.ireturn, 1) := by decide +kernel
theorem dX3_take_27 : decode cX3_take 27 = .ok (.aload_n 0, 1) := by decide +kernel
theorem dX3_take_28 : decode cX3_take 28 = .ok (.dup, 1) := by decide +kernel
theorem dX3_take_29 : decode cX3_take 29 = .ok (.getfield 33, 3) := by decide +kernel
theorem dX3_take_32 : decode cX3_take 32 = .ok (.iconst 1, 1) := by decide +kernel
theorem dX3_take_33 : decode cX3_take 33 = .ok (.iadd, 1) := by decide +kernel
theorem dX3_take_34 : decode cX3_take 34 = .ok (.putfield 33, 3) := by decide +kernel
theorem dX3_take_37 : decode cX3_take 37 = .ok (.iconst 1, 1) := by decide +kernel
theorem dX3_take_38 : decode cX3_take 38 = .ok (.ireturn, 1) := by decide +kernel
theorem dX3_emit_0 : decode cX3_emit 0 = .ok (.aload_n 0, 1) := by decide +kernel
theorem dX3_emit_1 : decode cX3_emit 1 = .ok (.getfield 29, 3) := by decide +kernel
theorem dX3_emit_4 : decode cX3_emit 4 = .ok (.bipush 121, 2) := by decide +kernel
theorem dX3_emit_6 : decode cX3_emit 6 = .ok (.if_icmp .lt 5, 3) := by decide +kernel
theorem dX3_emit_9 : decode cX3_emit 9 = .ok (.iconst 0, 1) := by decide +kernel
theorem dX3_emit_10 : decode cX3_emit 10 = .ok (.ireturn, 1) := by decide +kernel
theorem dX3_emit_11 : decode cX3_emit 11 = .ok (.aload_n 0, 1) := by decide +kernel
theorem dX3_emit_12 : decode cX3_emit 12 = .ok (.getfield 18, 3) := by decide +kernel
theorem dX3_emit_15 : decode cX3_emit 15 = .ok (.aload_n 0, 1) := by decide +kernel
theorem dX3_emit_16 : decode cX3_emit 16 = .ok (.getfield 29, 3) := by decide +kernel
theorem dX3_emit_19 : decode cX3_emit 19 = .ok (.iload_n 1, 1) := by decide +kernel
theorem dX3_emit_20 : decode cX3_emit 20 = .ok (.iastore, 1) := by decide +kernel
theorem dX3_emit_21 : decode cX3_emit 21 = .ok (.aload_n 0, 1) := by decide +kernel
theorem dX3_emit_22 : decode cX3_emit 22 = .ok (.getfield 22, 3) := by decide +kernel
theorem dX3_emit_25 : decode cX3_emit 25 = .ok (.aload_n 0, 1) := by decide +kernel
theorem dX3_emit_26 : decode cX3_emit 26 = .ok (.getfield 29, 3) := by decide +kernel
theorem dX3_emit_29 : decode cX3_emit 29 = .ok (.iload_n 2, 1) := by decide +kernel
theorem dX3_emit_30 : decode cX3_emit 30 = .ok (.iastore, 1) := by decide +kernel
theorem dX3_emit_31 : decode cX3_emit 31 = .ok (.aload_n 0, 1) := by decide +kernel
theorem dX3_emit_32 : decode cX3_emit 32 = .ok (.dup, 1) := by decide +kernel
theorem dX3_emit_33 : decode cX3_emit 33 = .ok (.getfield 29, 3) := by decide +kernel
theorem dX3_emit_36 : decode cX3_emit 36 = .ok (.iconst 1, 1) := by decide +kernel
theorem dX3_emit_37 : decode cX3_emit 37 = .ok (.iadd, 1) := by decide +kernel
theorem dX3_emit_38 : decode cX3_emit 38 = .ok (.putfield 29, 3) := by decide +kernel
theorem dX3_emit_41 : decode cX3_emit 41 = .ok (.iconst 1, 1) := by decide +kernel
theorem dX3_emit_42 : decode cX3_emit 42 = .ok (.ireturn, 1) := by decide +kernel
theorem dX3_aim_0 : decode cX3_aim 0 = .ok (.iload_n 1, 1) := by decide +kernel
theorem dX3_aim_1 : decode cX3_aim 1 = .ok (.aload_n 0, 1) := by decide +kernel
theorem dX3_aim_2 : decode cX3_aim 2 = .ok (.getfield 29, 3) := by decide +kernel
theorem dX3_aim_5 : decode cX3_aim 5 = .ok (.if_icmp .ge 13, 3) := by decide +kernel
theorem dX3_aim_8 : decode cX3_aim 8 = .ok (.aload_n 0, 1) := by decide +kernel
theorem dX3_aim_9 : decode cX3_aim 9 = .ok (.getfield 22, 3) := by decide +kernel
theorem dX3_aim_12 : decode cX3_aim 12 = .ok (.iload_n 1, 1) := by decide +kernel
theorem dX3_aim_13 : decode cX3_aim 13 = .ok (.aload_n 0, 1) := by decide +kernel
theorem dX3_aim_14 : decode cX3_aim 14 = .ok (.getfield 29, 3) := by decide +kernel
theorem dX3_aim_17 : decode cX3_aim 17 = .ok (.iastore, 1) := by decide +kernel
theorem dX3_aim_18 : decode cX3_aim 18 = .ok (.return_, 1) := by decide +kernel
