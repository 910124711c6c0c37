theorem dX3_init_0 : decode cX3_init 0 = .ok (.aload_n 0, 1) := by decide +kernel
theorem dX3_init_1 : decode cX3_init 1 = .ok (.invokespecial 3, 3) := by decide +kernel
theorem dX3_init_4 : decode cX3_init 4 = .ok (.aload_n 0, 1) := by decide +kernel
theorem dX3_init_5 : decode cX3_init 5 = .ok (.bipush 9, 2) := by decide +kernel
theorem dX3_init_7 : decode cX3_init 7 = .ok (.newarray .int, 2) := by decide +kernel
theorem dX3_init_9 : decode cX3_init 9 = .ok (.putfield 9, 3) := by decide +kernel
theorem dX3_init_12 : decode cX3_init 12 = .ok (.return_, 1) := by decide +kernel
theorem dX3_bendAt_0 : decode cX3_bendAt 0 = .ok (.aload_n 0, 1) := by decide +kernel
theorem dX3_bendAt_1 : decode cX3_bendAt 1 = .ok (.getfield 9, 3) := by decide +kernel
theorem dX3_bendAt_4 : decode cX3_bendAt 4 = .ok (.iload_n 1, 1) := by decide +kernel
theorem dX3_bendAt_5 : decode cX3_bendAt 5 = .ok (.iconst 1, 1) := by decide +kernel
theorem dX3_bendAt_6 : decode cX3_bendAt 6 = .ok (.isub, 1) := by decide +kernel
theorem dX3_bendAt_7 : decode cX3_bendAt 7 = .ok (.iaload, 1) := by decide +kernel
theorem dX3_bendAt_8 : decode cX3_bendAt 8 = .ok (.aload_n 0, 1) := by decide +kernel
theorem dX3_bendAt_9 : decode cX3_bendAt 9 = .ok (.getfield 9, 3) := by decide +kernel
theorem dX3_bendAt_12 : decode cX3_bendAt 12 = .ok (.iload_n 1, 1) := by decide +kernel
theorem dX3_bendAt_13 : decode cX3_bendAt 13 = .ok (.iconst 1, 1) := by decide +kernel
theorem dX3_bendAt_14 : decode cX3_bendAt 14 = .ok (.iadd, 1) := by decide +kernel
theorem dX3_bendAt_15 : decode cX3_bendAt 15 = .ok (.iaload, 1) := by decide +kernel
theorem dX3_bendAt_16 : decode cX3_bendAt 16 = .ok (.iadd, 1) := by decide +kernel
theorem dX3_bendAt_17 : decode cX3_bendAt 17 = .ok (.iconst 2, 1) := by decide +kernel
theorem dX3_bendAt_18 : decode cX3_bendAt 18 = .ok (.aload_n 0, 1) := by decide +kernel
theorem dX3_bendAt_19 : decode cX3_bendAt 19 = .ok (.getfield 9, 3) := by decide +kernel
theorem dX3_bendAt_22 : decode cX3_bendAt 22 = .ok (.iload_n 1, 1) := by decide +kernel
theorem dX3_bendAt_23 : decode cX3_bendAt 23 = .ok (.iaload, 1) := by decide +kernel
theorem dX3_bendAt_24 : decode cX3_bendAt 24 = .ok (.imul, 1) := by decide +kernel
theorem dX3_bendAt_25 : decode cX3_bendAt 25 = .ok (.isub, 1) := by decide +kernel
theorem dX3_bendAt_26 : decode cX3_bendAt 26 = .ok (.ireturn, 1) := by decide +kernel
theorem dX3_jumpAt_0 : decode cX3_jumpAt 0 = .ok (.aload_n 0, 1) := by decide +kernel
theorem dX3_jumpAt_1 : decode cX3_jumpAt 1 = .ok (.iload_n 1, 1) := by decide +kernel
theorem dX3_jumpAt_2 : decode cX3_jumpAt 2 = .ok (.iconst 1, 1) := by decide +kernel
theorem dX3_jumpAt_3 : decode cX3_jumpAt 3 = .ok (.iadd, 1) := by decide +kernel
theorem dX3_jumpAt_4 : decode cX3_jumpAt 4 = .ok (.invokevirtual 15, 3) := by decide +kernel
theorem dX3_jumpAt_7 : decode cX3_jumpAt 7 = .ok (.aload_n 0, 1) := by decide +kernel
theorem dX3_jumpAt_8 : decode cX3_jumpAt 8 = .ok (.iload_n 1, 1) := by decide +kernel
theorem dX3_jumpAt_9 : decode cX3_jumpAt 9 = .ok (.invokevirtual 15, 3) := by decide +kernel
theorem dX3_jumpAt_12 : decode cX3_jumpAt 12 = .ok (.isub, 1) := by decide +kernel
theorem dX3_jumpAt_13 : decode cX3_jumpAt 13 = .ok (.ireturn, 1) := by decide +kernel
theorem dX3_farthestJump_0 : decode cX3_farthestJump 0 = .ok (.iconst 0, 1) := by decide +kernel
theorem dX3_farthestJump_1 : decode cX3_farthestJump 1 = .ok (.istore_n 1, 1) := by decide +kernel
theorem dX3_farthestJump_2 : decode cX3_farthestJump 2 = .ok (.iconst 1, 1) := by decide +kernel
theorem dX3_farthestJump_3 : decode cX3_farthestJump 3 = .ok (.istore_n 2, 1) := by decide +kernel
theorem dX3_farthestJump_4 : decode cX3_farthestJump 4 = .ok (.iload_n 2, 1) := by decide +kernel
theorem dX3_farthestJump_5 : decode cX3_farthestJump 5 = .ok (.aload_n 0, 1) := by decide +kernel
theorem dX3_farthestJump_6 : decode cX3_farthestJump 6 = .ok (.getfield 19, 3) := by decide +kernel
theorem dX3_farthestJump_9 : decode cX3_farthestJump 9 = .ok (.iconst 3, 1) := by decide +kernel
theorem dX3_farthestJump_10 : decode cX3_farthestJump 10 = .ok (.isub, 1) := by decide +kernel
theorem dX3_farthestJump_11 : decode cX3_farthestJump 11 = .ok (.if_icmp .gt 22, 3) := by decide +kernel
theorem dX3_farthestJump_14 : decode cX3_farthestJump 14 = .ok (.iload_n 1, 1) := by decide +kernel
theorem dX3_farthestJump_15 : decode cX3_farthestJump 15 = .ok (.aload_n 0, 1) := by decide +kernel
theorem dX3_farthestJump_16 : decode cX3_farthestJump 16 = .ok (.iload_n 2, 1) := by decide +kernel
theorem dX3_farthestJump_17 : decode cX3_farthestJump 17 = .ok (.invokevirtual 23, 3) := by decide +kernel
theorem dX3_farthestJump_20 : decode cX3_farthestJump 20 = .ok (.invokestatic 26, 3) := by decide +kernel
theorem dX3_farthestJump_23 : decode cX3_farthestJump 23 = .ok (.invokestatic 31, 3) := by decide +kernel
theorem dX3_farthestJump_26 : decode cX3_farthestJump 26 = .ok (.istore_n 1, 1) := by decide +kernel
theorem dX3_farthestJump_27 : decode cX3_farthestJump 27 = .ok (.iinc 2 1, 3) := by decide +kernel
theorem dX3_farthestJump_30 : decode cX3_farthestJump 30 = .ok (.goto (-26), 3) := by decide +kernel
theorem dX3_farthestJump_33 : decode cX3_farthestJump 33 = .ok (.iload_n 1, 1) := by decide +kernel
theorem dX3_farthestJump_34 : decode cX3_farthestJump 34 = .ok (.ireturn, 1) := by decide +kernel
theorem dX3_firstJumpThatFar_0 : decode cX3_firstJumpThatFar 0 = .ok (.iconst 1, 1) := by decide +kernel
theorem dX3_firstJumpThatFar_1 : decode cX3_firstJumpThatFar 1 = .ok (.istore_n 2, 1) := by decide +kernel
theorem dX3_firstJumpThatFar_2 : decode cX3_firstJumpThatFar 2 = .ok (.iload_n 2, 1) := by decide +kernel
theorem dX3_firstJumpThatFar_3 : decode cX3_firstJumpThatFar 3 = .ok (.aload_n 0, 1) := by decide +kernel
theorem dX3_firstJumpThatFar_4 : decode cX3_firstJumpThatFar 4 = .ok (.getfield 19, 3) := by decide +kernel
theorem dX3_firstJumpThatFar_7 : decode cX3_firstJumpThatFar 7 = .ok (.iconst 3, 1) := by decide +kernel
theorem dX3_firstJumpThatFar_8 : decode cX3_firstJumpThatFar 8 = .ok (.isub, 1) := by decide +kernel
theorem dX3_firstJumpThatFar_9 : decode cX3_firstJumpThatFar 9 = .ok (.if_icmp .ge 21, 3) := by decide +kernel
theorem dX3_firstJumpThatFar_12 : decode cX3_firstJumpThatFar 12 = .ok (.aload_n 0, 1) := by decide +kernel
theorem dX3_firstJumpThatFar_13 : decode cX3_firstJumpThatFar 13 = .ok (.iload_n 2, 1) := by decide +kernel
theorem dX3_firstJumpThatFar_14 : decode cX3_firstJumpThatFar 14 = .ok (.invokevirtual 23, 3) := by decide +kernel
theorem dX3_firstJumpThatFar_17 : decode cX3_firstJumpThatFar 17 = .ok (.invokestatic 26, 3) := by decide +kernel
theorem dX3_firstJumpThatFar_20 : decode cX3_firstJumpThatFar 20 = .ok (.iload_n 1, 1) := by decide +kernel
theorem dX3_firstJumpThatFar_21 : decode cX3_firstJumpThatFar 21 = .ok (.if_icmp .eq 9, 3) := by decide +kernel
theorem dX3_firstJumpThatFar_24 : decode cX3_firstJumpThatFar 24 = .ok (.iinc 2 1, 3) := by decide +kernel
theorem dX3_firstJumpThatFar_27 : decode cX3_firstJumpThatFar 27 = .ok (.goto (-25), 3) := by decide +kernel
theorem dX3_firstJumpThatFar_30 : decode cX3_firstJumpThatFar 30 = .ok (.iload_n 2, 1) := by decide +kernel
theorem dX3_firstJumpThatFar_31 : decode cX3_firstJumpThatFar 31 = .ok (.ireturn, 1) := by decide +kernel
theorem dX3_countJumpsBeyond_0 : decode cX3_countJumpsBeyond 0 = .ok (.iconst 0, 1) := by decide +kernel
theorem dX3_countJumpsBeyond_1 : decode cX3_countJumpsBeyond 1 = .ok (.istore_n 2, 1) := by decide +kernel
theorem dX3_countJumpsBeyond_2 : decode cX3_countJumpsBeyond 2 = .ok (.iconst 1, 1) := by decide +kernel
theorem dX3_countJumpsBeyond_3 : decode cX3_countJumpsBeyond 3 = .ok (.istore_n 3, 1) := by decide +kernel
theorem dX3_countJumpsBeyond_4 : decode cX3_countJumpsBeyond 4 = .ok (.iload_n 3, 1) := by decide +kernel
theorem dX3_countJumpsBeyond_5 : decode cX3_countJumpsBeyond 5 = .ok (.aload_n 0, 1) := by decide +kernel
theorem dX3_countJumpsBeyond_6 : decode cX3_countJumpsBeyond 6 = .ok (.getfield 19, 3) := by decide +kernel
theorem dX3_countJumpsBeyond_9 : decode cX3_countJumpsBeyond 9 = .ok (.iconst 3, 1) := by decide +kernel
theorem dX3_countJumpsBeyond_10 : decode cX3_countJumpsBeyond 10 = .ok (.isub, 1) := by decide +kernel
theorem dX3_countJumpsBeyond_11 : decode cX3_countJumpsBeyond 11 = .ok (.if_icmp .gt 24, 3) := by decide +kernel
theorem dX3_countJumpsBeyond_14 : decode cX3_countJumpsBeyond 14 = .ok (.aload_n 0, 1) := by decide +kernel
theorem dX3_countJumpsBeyond_15 : decode cX3_countJumpsBeyond 15 = .ok (.iload_n 3, 1) := by decide +kernel
theorem dX3_countJumpsBeyond_16 : decode cX3_countJumpsBeyond 16 = .ok (.invokevirtual 23, 3) := by decide +kernel
theorem dX3_countJumpsBeyond_19 : decode cX3_countJumpsBeyond 19 = .ok (.invokestatic 26, 3) := by decide +kernel
theorem dX3_countJumpsBeyond_22 : decode cX3_countJumpsBeyond 22 = .ok (.iload_n 1, 1) := by decide +kernel
theorem dX3_countJumpsBeyond_23 : decode cX3_countJumpsBeyond 23 = .ok (.if_icmp .le 6, 3) := by decide +kernel
theorem dX3_countJumpsBeyond_26 : decode cX3_countJumpsBeyond 26 = .ok (.iinc 2 1, 3) := by decide +kernel
theorem dX3_countJumpsBeyond_29 : decode cX3_countJumpsBeyond 29 = .ok (.iinc 3 1, 3) := by decide +kernel
theorem dX3_countJumpsBeyond_32 : decode cX3_countJumpsBeyond 32 = .ok (.goto (-28), 3) := by decide +kernel
theorem dX3_countJumpsBeyond_35 : decode cX3_countJumpsBeyond 35 = .ok (.iload_n 2, 1) := by decide +kernel
theorem dX3_countJumpsBeyond_36 : decode cX3_countJumpsBeyond 36 = .ok (.ireturn, 1) := by decide +kernel
