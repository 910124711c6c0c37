theorem dX0_init_0 : decode cX0_init 0 = .ok (.aload_n 0, 1) := by decide +kernel
theorem dX0_init_1 : decode cX0_init 1 = .ok (.invokespecial 3, 3) := by decide +kernel
theorem dX0_init_4 : decode cX0_init 4 = .ok (.aload_n 0, 1) := by decide +kernel
theorem dX0_init_5 : decode cX0_init 5 = .ok (.bipush 63, 2) := by decide +kernel
theorem dX0_init_7 : decode cX0_init 7 = .ok (.newarray .int, 2) := by decide +kernel
theorem dX0_init_9 : decode cX0_init 9 = .ok (.putfield 9, 3) := by decide +kernel
theorem dX0_init_12 : decode cX0_init 12 = .ok (.aload_n 0, 1) := by decide +kernel
theorem dX0_init_13 : decode cX0_init 13 = .ok (.bipush 63, 2) := by decide +kernel
theorem dX0_init_15 : decode cX0_init 15 = .ok (.newarray .int, 2) := by decide +kernel
theorem dX0_init_17 : decode cX0_init 17 = .ok (.putfield 15, 3) := by decide +kernel
theorem dX0_init_20 : decode cX0_init 20 = .ok (.aload_n 0, 1) := by decide +kernel
theorem dX0_init_21 : decode cX0_init 21 = .ok (.bipush 63, 2) := by decide +kernel
theorem dX0_init_23 : decode cX0_init 23 = .ok (.newarray .boolean, 2) := by decide +kernel
theorem dX0_init_25 : decode cX0_init 25 = .ok (.putfield 18, 3) := by decide +kernel
theorem dX0_init_28 : decode cX0_init 28 = .ok (.return_, 1) := by decide +kernel
theorem dX0_renew_0 : decode cX0_renew 0 = .ok (.aload_n 0, 1) := by decide +kernel
theorem dX0_renew_1 : decode cX0_renew 1 = .ok (.iload_n 1, 1) := by decide +kernel
theorem dX0_renew_2 : decode cX0_renew 2 = .ok (.putfield 22, 3) := by decide +kernel
theorem dX0_renew_5 : decode cX0_renew 5 = .ok (.aload_n 0, 1) := by decide +kernel
theorem dX0_renew_6 : decode cX0_renew 6 = .ok (.iload_n 2, 1) := by decide +kernel
theorem dX0_renew_7 : decode cX0_renew 7 = .ok (.putfield 26, 3) := by decide +kernel
theorem dX0_renew_10 : decode cX0_renew 10 = .ok (.iconst 0, 1) := by decide +kernel
theorem dX0_renew_11 : decode cX0_renew 11 = .ok (.istore_n 3, 1) := by decide +kernel
theorem dX0_renew_12 : decode cX0_renew 12 = .ok (.iload_n 3, 1) := by decide +kernel
theorem dX0_renew_13 : decode cX0_renew 13 = .ok (.bipush 63, 2) := by decide +kernel
theorem dX0_renew_15 : decode cX0_renew 15 = .ok (.if_icmp .ge 30, 3) := by decide +kernel
theorem dX0_renew_18 : decode cX0_renew 18 = .ok (.aload_n 0, 1) := by decide +kernel
theorem dX0_renew_19 : decode cX0_renew 19 = .ok (.getfield 9, 3) := by decide +kernel
theorem dX0_renew_22 : decode cX0_renew 22 = .ok (.iload_n 3, 1) := by decide +kernel
theorem dX0_renew_23 : decode cX0_renew 23 = .ok (.iconst 0, 1) := by decide +kernel
theorem dX0_renew_24 : decode cX0_renew 24 = .ok (.iastore, 1) := by decide +kernel
theorem dX0_renew_25 : decode cX0_renew 25 = .ok (.aload_n 0, 1) := by decide +kernel
theorem dX0_renew_26 : decode cX0_renew 26 = .ok (.getfield 15, 3) := by decide +kernel
theorem dX0_renew_29 : decode cX0_renew 29 = .ok (.iload_n 3, 1) := by decide +kernel
theorem dX0_renew_30 : decode cX0_renew 30 = .ok (.iconst 0, 1) := by decide +kernel
theorem dX0_renew_31 : decode cX0_renew 31 = .ok (.iastore, 1) := by decide +kernel
theorem dX0_renew_32 : decode cX0_renew 32 = .ok (.aload_n 0, 1) := by decide +kernel
theorem dX0_renew_33 : decode cX0_renew 33 = .ok (.getfield 18, 3) := by decide +kernel
theorem dX0_renew_36 : decode cX0_renew 36 = .ok (.iload_n 3, 1) := by decide +kernel
theorem dX0_renew_37 : decode cX0_renew 37 = .ok (.iconst 0, 1) := by decide +kernel
theorem dX0_renew_38 : decode cX0_renew 38 = .ok (.bastore, 1) := by decide +kernel
theorem dX0_renew_39 : decode cX0_renew 39 = .ok (.iinc 3 1, 3) := by decide +kernel
theorem dX0_renew_42 : decode cX0_renew 42 = .ok (.goto (-30), 3) := by decide +kernel
theorem dX0_renew_45 : decode cX0_renew 45 = .ok (.return_, 1) := by decide +kernel
theorem dX0_put_0 : decode cX0_put 0 = .ok (.aload_n 0, 1) := by decide +kernel
theorem dX0_put_1 : decode cX0_put 1 = .ok (.getfield 9, 3) := by decide +kernel
theorem dX0_put_4 : decode cX0_put 4 = .ok (.iload_n 1, 1) := by decide +kernel
theorem dX0_put_5 : decode cX0_put 5 = .ok (.iaload, 1) := by decide +kernel
theorem dX0_put_6 : decode cX0_put 6 = .ok (.istore_n 3, 1) := by decide +kernel
theorem dX0_put_7 : decode cX0_put 7 = .ok (.aload_n 0, 1) := by decide +kernel
theorem dX0_put_8 : decode cX0_put 8 = .ok (.getfield 9, 3) := by decide +kernel
theorem dX0_put_11 : decode cX0_put 11 = .ok (.iload_n 1, 1) := by decide +kernel
theorem dX0_put_12 : decode cX0_put 12 = .ok (.iload_n 2, 1) := by decide +kernel
theorem dX0_put_13 : decode cX0_put 13 = .ok (.iastore, 1) := by decide +kernel
theorem dX0_put_14 : decode cX0_put 14 = .ok (.aload_n 0, 1) := by decide +kernel
theorem dX0_put_15 : decode cX0_put 15 = .ok (.getfield 15, 3) := by decide +kernel
theorem dX0_put_18 : decode cX0_put 18 = .ok (.iload_n 1, 1) := by decide +kernel
theorem dX0_put_19 : decode cX0_put 19 = .ok (.iload_n 2, 1) := by decide +kernel
theorem dX0_put_20 : decode cX0_put 20 = .ok (.iastore, 1) := by decide +kernel
theorem dX0_put_21 : decode cX0_put 21 = .ok (.iload_n 3, 1) := by decide +kernel
theorem dX0_put_22 : decode cX0_put 22 = .ok (.ireturn, 1) := by decide +kernel
theorem dX0_hasPoint_0 : decode cX0_hasPoint 0 = .ok (.iload_n 1, 1) := by decide +kernel
theorem dX0_hasPoint_1 : decode cX0_hasPoint 1 = .ok (.ifCond .lt 27, 3) := by decide +kernel
theorem dX0_hasPoint_4 : decode cX0_hasPoint 4 = .ok (.iload_n 1, 1) := by decide +kernel
theorem dX0_hasPoint_5 : decode cX0_hasPoint 5 = .ok (.aload_n 0, 1) := by decide +kernel
theorem dX0_hasPoint_6 : decode cX0_hasPoint 6 = .ok (.getfield 22, 3) := by decide +kernel
theorem dX0_hasPoint_9 : decode cX0_hasPoint 9 = .ok (.if_icmp .ge 19, 3) := by decide +kernel
theorem dX0_hasPoint_12 : decode cX0_hasPoint 12 = .ok (.iload_n 2, 1) := by decide +kernel
theorem dX0_hasPoint_13 : decode cX0_hasPoint 13 = .ok (.ifCond .lt 15, 3) := by decide +kernel
theorem dX0_hasPoint_16 : decode cX0_hasPoint 16 = .ok (.iload_n 2, 1) := by decide +kernel
theorem dX0_hasPoint_17 : decode cX0_hasPoint 17 = .ok (.aload_n 0, 1) := by decide +kernel
theorem dX0_hasPoint_18 : decode cX0_hasPoint 18 = .ok (.getfield 26, 3) := by decide +kernel
theorem dX0_hasPoint_21 : decode cX0_hasPoint 21 = .ok (.if_icmp .ge 7, 3) := by decide +kernel
theorem dX0_hasPoint_24 : decode cX0_hasPoint 24 = .ok (.iconst 1, 1) := by decide +kernel
theorem dX0_hasPoint_25 : decode cX0_hasPoint 25 = .ok (.goto 4, 3) := by decide +kernel
theorem dX0_hasPoint_28 : decode cX0_hasPoint 28 = .ok (.iconst 0, 1) := by decide +kernel
theorem dX0_hasPoint_29 : decode cX0_hasPoint 29 = .ok (.ireturn, 1) := by decide +kernel
theorem dX0_linesOf_0 : decode cX0_linesOf 0 = .ok (.iload_n 1, 1) := by decide +kernel
theorem dX0_linesOf_1 : decode cX0_linesOf 1 = .ok (.iconst 1, 1) := by decide +kernel
theorem dX0_linesOf_2 : decode cX0_linesOf 2 = .ok (.if_icmp .ne 10, 3) := by decide +kernel
theorem dX0_linesOf_5 : decode cX0_linesOf 5 = .ok (.aload_n 0, 1) := by decide +kernel
theorem dX0_linesOf_6 : decode cX0_linesOf 6 = .ok (.getfield 22, 3) := by decide +kernel
theorem dX0_linesOf_9 : decode cX0_linesOf 9 = .ok (.goto 7, 3) := by decide +kernel
theorem dX0_linesOf_12 : decode cX0_linesOf 12 = .ok (.aload_n 0, 1) := by decide +kernel
theorem dX0_linesOf_13 : decode cX0_linesOf 13 = .ok (.getfield 26, 3) := by decide +kernel
theorem dX0_linesOf_16 : decode cX0_linesOf 16 = .ok (.ireturn, 1) := by decide +kernel
theorem dX0_pointsOf_0 : decode cX0_pointsOf 0 = .ok (.iload_n 1, 1) := by decide +kernel
theorem dX0_pointsOf_1 : decode cX0_pointsOf 1 = .ok (.iconst 1, 1) := by decide +kernel
theorem dX0_pointsOf_2 : decode cX0_pointsOf 2 = .ok (.if_icmp .ne 10, 3) := by decide +kernel
theorem dX0_pointsOf_5 : decode cX0_pointsOf 5 = .ok (.aload_n 0, 1) := by decide +kernel
theorem dX0_pointsOf_6 : decode cX0_pointsOf 6 = .ok (.getfield 26, 3) := by decide +kernel
theorem dX0_pointsOf_9 : decode cX0_pointsOf 9 = .ok (.goto 7, 3) := by decide +kernel
theorem dX0_pointsOf_12 : decode cX0_pointsOf 12 = .ok (.aload_n 0, 1) := by decide +kernel
theorem dX0_pointsOf_13 : decode cX0_pointsOf 13 = .ok (.getfield 22, 3) := by decide +kernel
theorem dX0_pointsOf_16 : decode cX0_pointsOf 16 = .ok (.ireturn, 1) := by decide +kernel
theorem dX0_cell_0 : decode cX0_cell 0 = .ok (.iload_n 1, 1) := by decide +kernel
theorem dX0_cell_1 : decode cX0_cell 1 = .ok (.iconst 1, 1) := by decide +kernel
theorem dX0_cell_2 : decode cX0_cell 2 = .ok (.if_icmp .ne 11, 3) := by decide +kernel
theorem dX0_cell_5 : decode cX0_cell 5 = .ok (.iload_n 2, 1) := by decide +kernel
theorem dX0_cell_6 : decode cX0_cell 6 = .ok (.iload_n 3, 1) := by decide +kernel
theorem dX0_cell_7 : decode cX0_cell 7 = .ok (.invokestatic 29, 3) := by decide +kernel
theorem dX0_cell_10 : decode cX0_cell 10 = .ok (.goto 8, 3) := by decide +kernel
theorem dX0_cell_13 : decode cX0_cell 13 = .ok (.iload_n 3, 1) := by decide +kernel
theorem dX0_cell_14 : decode cX0_cell 14 = .ok (.iload_n 2, 1) := by decide +kernel
theorem dX0_cell_15 : decode cX0_cell 15 = .ok (.invokestatic 29, 3) := by decide +kernel
theorem dX0_cell_18 : decode cX0_cell 18 = .ok (.ireturn, 1) := by decide +kernel
theorem dX0_layOut_0 : decode cX0_layOut 0 = .ok (.aload_n 3, 1) := by decide +kernel
theorem dX0_layOut_1 : decode cX0_layOut 1 = .ok (.aload_n 0, 1) := by decide +kernel
theorem dX0_layOut_2 : decode cX0_layOut 2 = .ok (.iload_n 1, 1) := by decide +kernel
theorem dX0_layOut_3 : decode cX0_layOut 3 = .ok (.invokevirtual 33, 3) := by decide +kernel
theorem dX0_layOut_6 : decode cX0_layOut 6 = .ok (.putfield 37, 3) := by decide +kernel
theorem dX0_layOut_9 : decode cX0_layOut 9 = .ok (.iconst 0, 1) := by decide +kernel
theorem dX0_layOut_10 : decode cX0_layOut 10 = .ok (.istore 4, 2) := by decide +kernel
theorem dX0_layOut_12 : decode cX0_layOut 12 = .ok (.iload 4, 2) := by decide +kernel
theorem dX0_layOut_14 : decode cX0_layOut 14 = .ok (.aload_n 3, 1) := by decide +kernel
theorem dX0_layOut_15 : decode cX0_layOut 15 = .ok (.getfield 37, 3) := by decide +kernel
theorem dX0_layOut_18 : decode cX0_layOut 18 = .ok (.if_icmp .ge 29, 3) := by decide +kernel
theorem dX0_layOut_21 : decode cX0_layOut 21 = .ok (.aload_n 3, 1) := by decide +kernel
theorem dX0_layOut_22 : decode cX0_layOut 22 = .ok (.getfield 42, 3) := by decide +kernel
theorem dX0_layOut_25 : decode cX0_layOut 25 = .ok (.iload 4, 2) := by decide +kernel
theorem dX0_layOut_27 : decode cX0_layOut 27 = .ok (.aload_n 0, 1) := by decide +kernel
theorem dX0_layOut_28 : decode cX0_layOut 28 = .ok (.getfield 9, 3) := by decide +kernel
theorem dX0_layOut_31 : decode cX0_layOut 31 = .ok (.aload_n 0, 1) := by decide +kernel
theorem dX0_layOut_32 : decode cX0_layOut 32 = .ok (.iload_n 1, 1) := by decide +kernel
theorem dX0_layOut_33 : decode cX0_layOut 33 = .ok (.iload_n 2, 1) := by decide +kernel
theorem dX0_layOut_34 : decode cX0_layOut 34 = .ok (.iload 4, 2) := by decide +kernel
theorem dX0_layOut_36 : decode cX0_layOut 36 = .ok (.invokevirtual 43, 3) := by decide +kernel
theorem dX0_layOut_39 : decode cX0_layOut 39 = .ok (.iaload, 1) := by decide +kernel
theorem dX0_layOut_40 : decode cX0_layOut 40 = .ok (.iastore, 1) := by decide +kernel
theorem dX0_layOut_41 : decode cX0_layOut 41 = .ok (.iinc 4 1, 3) := by decide +kernel
theorem dX0_layOut_44 : decode cX0_layOut 44 = .ok (.goto (-32), 3) := by decide +kernel
theorem dX0_layOut_47 : decode cX0_layOut 47 = .ok (.return_, 1) := by decide +kernel
theorem dX0_movedBy_0 : decode cX0_movedBy 0 = .ok (.aload_n 0, 1) := by decide +kernel
theorem dX0_movedBy_1 : decode cX0_movedBy 1 = .ok (.getfield 9, 3) := by decide +kernel
theorem dX0_movedBy_4 : decode cX0_movedBy 4 = .ok (.iload_n 1, 1) := by decide +kernel
theorem dX0_movedBy_5 : decode cX0_movedBy 5 = .ok (.iaload, 1) := by decide +kernel
theorem dX0_movedBy_6 : decode cX0_movedBy 6 = .ok (.aload_n 0, 1) := by decide +kernel
theorem dX0_movedBy_7 : decode cX0_movedBy 7 = .ok (.getfield 15, 3) := by decide +kernel
theorem dX0_movedBy_10 : decode cX0_movedBy 10 = .ok (.iload_n 1, 1) := by decide +kernel
theorem dX0_movedBy_11 : decode cX0_movedBy 11 = .ok (.iaload, 1) := by decide +kernel
theorem dX0_movedBy_12 : decode cX0_movedBy 12 = .ok (.isub, 1) := by decide +kernel
theorem dX0_movedBy_13 : decode cX0_movedBy 13 = .ok (.ireturn, 1) := by decide +kernel
theorem dX0_farFromPuts_0 : decode cX0_farFromPuts 0 = .ok (.iconst 0, 1) := by decide +kernel
theorem dX0_farFromPuts_1 : decode cX0_farFromPuts 1 = .ok (.istore_n 1, 1) := by decide +kernel
theorem dX0_farFromPuts_2 : decode cX0_farFromPuts 2 = .ok (.iconst 0, 1) := by decide +kernel
theorem dX0_farFromPuts_3 : decode cX0_farFromPuts 3 = .ok (.istore_n 2, 1) := by decide +kernel
theorem dX0_farFromPuts_4 : decode cX0_farFromPuts 4 = .ok (.iload_n 2, 1) := by decide +kernel
theorem dX0_farFromPuts_5 : decode cX0_farFromPuts 5 = .ok (.bipush 63, 2) := by decide +kernel
theorem dX0_farFromPuts_7 : decode cX0_farFromPuts 7 = .ok (.if_icmp .ge 20, 3) := by decide +kernel
theorem dX0_farFromPuts_10 : decode cX0_farFromPuts 10 = .ok (.iload_n 1, 1) := by decide +kernel
theorem dX0_farFromPuts_11 : decode cX0_farFromPuts 11 = .ok (.aload_n 0, 1) := by decide +kernel
theorem dX0_farFromPuts_12 : decode cX0_farFromPuts 12 = .ok (.iload_n 2, 1) := by decide +kernel
theorem dX0_farFromPuts_13 : decode cX0_farFromPuts 13 = .ok (.invokevirtual 47, 3) := by decide +kernel
theorem dX0_farFromPuts_16 : decode cX0_farFromPuts 16 = .ok (.invokestatic 50, 3) := by decide +kernel
theorem dX0_farFromPuts_19 : decode cX0_farFromPuts 19 = .ok (.iadd, 1) := by decide +kernel
theorem dX0_farFromPuts_20 : decode cX0_farFromPuts 20 = .ok (.istore_n 1, 1) := by decide +kernel
theorem dX0_farFromPuts_21 : decode cX0_farFromPuts 21 = .ok (.iinc 2 1, 3) := by decide +kernel
theorem dX0_farFromPuts_24 : decode cX0_farFromPuts 24 = .ok (.goto (-20), 3) := by decide +kernel
theorem dX0_farFromPuts_27 : decode cX0_farFromPuts 27 = .ok (.iload_n 1, 1) := by decide +kernel
theorem dX0_farFromPuts_28 : decode cX0_farFromPuts 28 = .ok (.ireturn, 1) := by decide +kernel
theorem dX0_countHeld_0 : decode cX0_countHeld 0 = .ok (.iconst 0, 1) := by decide +kernel
theorem dX0_countHeld_1 : decode cX0_countHeld 1 = .ok (.istore_n 1, 1) := by decide +kernel
theorem dX0_countHeld_2 : decode cX0_countHeld 2 = .ok (.iconst 0, 1) := by decide +kernel
theorem dX0_countHeld_3 : decode cX0_countHeld 3 = .ok (.istore_n 2, 1) := by decide +kernel
theorem dX0_countHeld_4 : decode cX0_countHeld 4 = .ok (.iload_n 2, 1) := by decide +kernel
theorem dX0_countHeld_5 : decode cX0_countHeld 5 = .ok (.bipush 63, 2) := by decide +kernel
theorem dX0_countHeld_7 : decode cX0_countHeld 7 = .ok (.if_icmp .ge 21, 3) := by decide +kernel
theorem dX0_countHeld_10 : decode cX0_countHeld 10 = .ok (.aload_n 0, 1) := by decide +kernel
theorem dX0_countHeld_11 : decode cX0_countHeld 11 = .ok (.getfield 18, 3) := by decide +kernel
theorem dX0_countHeld_14 : decode cX0_countHeld 14 = .ok (.iload_n 2, 1) := by decide +kernel
theorem dX0_countHeld_15 : decode cX0_countHeld 15 = .ok (.baload, 1) := by decide +kernel
theorem dX0_countHeld_16 : decode cX0_countHeld 16 = .ok (.ifCond .eq 6, 3) := by decide +kernel
theorem dX0_countHeld_19 : decode cX0_countHeld 19 = .ok (.iinc 1 1, 3) := by decide +kernel
theorem dX0_countHeld_22 : decode cX0_countHeld 22 = .ok (.iinc 2 1, 3) := by decide +kernel
theorem dX0_countHeld_25 : decode cX0_countHeld 25 = .ok (.goto (-21), 3) := by decide +kernel
theorem dX0_countHeld_28 : decode cX0_countHeld 28 = .ok (.iload_n 1, 1) := by decide +kernel
theorem dX0_countHeld_29 : decode cX0_countHeld 29 = .ok (.ireturn, 1) := by decide +kernel
theorem dX0_broadest_0 : decode cX0_broadest 0 = .ok (.iconst 0, 1) := by decide +kernel
theorem dX0_broadest_1 : decode cX0_broadest 1 = .ok (.istore_n 1, 1) := by decide +kernel
theorem dX0_broadest_2 : decode cX0_broadest 2 = .ok (.iconst 0, 1) := by decide +kernel
theorem dX0_broadest_3 : decode cX0_broadest 3 = .ok (.istore_n 2, 1) := by decide +kernel
theorem dX0_broadest_4 : decode cX0_broadest 4 = .ok (.iload_n 2, 1) := by decide +kernel
theorem dX0_broadest_5 : decode cX0_broadest 5 = .ok (.bipush 63, 2) := by decide +kernel
theorem dX0_broadest_7 : decode cX0_broadest 7 = .ok (.if_icmp .ge 20, 3) := by decide +kernel
theorem dX0_broadest_10 : decode cX0_broadest 10 = .ok (.iload_n 1, 1) := by decide +kernel
theorem dX0_broadest_11 : decode cX0_broadest 11 = .ok (.aload_n 0, 1) := by decide +kernel
theorem dX0_broadest_12 : decode cX0_broadest 12 = .ok (.getfield 9, 3) := by decide +kernel
theorem dX0_broadest_15 : decode cX0_broadest 15 = .ok (.iload_n 2, 1) := by decide +kernel
theorem dX0_broadest_16 : decode cX0_broadest 16 = .ok (.iaload, 1) := by decide +kernel
theorem dX0_broadest_17 : decode cX0_broadest 17 = .ok (.invokestatic 55, 3) := by decide +kernel
theorem dX0_broadest_20 : decode cX0_broadest 20 = .ok (.istore_n 1, 1) := by decide +kernel
theorem dX0_broadest_21 : decode cX0_broadest 21 = .ok (.iinc 2 1, 3) := by decide +kernel
theorem dX0_broadest_24 : decode cX0_broadest 24 = .ok (.goto (-20), 3) := by decide +kernel
theorem dX0_broadest_27 : decode cX0_broadest 27 = .ok (.iload_n 1, 1) := by decide +kernel
theorem dX0_broadest_28 : decode cX0_broadest 28 = .ok (.ireturn, 1) := by decide +kernel
