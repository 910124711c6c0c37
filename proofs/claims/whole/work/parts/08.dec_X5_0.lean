theorem dX5_init_0 : decode cX5_init 0 = .ok (.aload_n 0, 1) := by decide +kernel
theorem dX5_init_1 : decode cX5_init 1 = .ok (.invokespecial 1, 3) := by decide +kernel
theorem dX5_init_4 : decode cX5_init 4 = .ok (.aload_n 0, 1) := by decide +kernel
theorem dX5_init_5 : decode cX5_init 5 = .ok (.bipush 10, 2) := by decide +kernel
theorem dX5_init_7 : decode cX5_init 7 = .ok (.putfield 7, 3) := by decide +kernel
theorem dX5_init_10 : decode cX5_init 10 = .ok (.aload_n 0, 1) := by decide +kernel
theorem dX5_init_11 : decode cX5_init 11 = .ok (.iconst 2, 1) := by decide +kernel
theorem dX5_init_12 : decode cX5_init 12 = .ok (.putfield 13, 3) := by decide +kernel
theorem dX5_init_15 : decode cX5_init 15 = .ok (.aload_n 0, 1) := by decide +kernel
theorem dX5_init_16 : decode cX5_init 16 = .ok (.bipush 10, 2) := by decide +kernel
theorem dX5_init_18 : decode cX5_init 18 = .ok (.putfield 16, 3) := by decide +kernel
theorem dX5_init_21 : decode cX5_init 21 = .ok (.aload_n 0, 1) := by decide +kernel
theorem dX5_init_22 : decode cX5_init 22 = .ok (.iconst 5, 1) := by decide +kernel
theorem dX5_init_23 : decode cX5_init 23 = .ok (.putfield 19, 3) := by decide +kernel
theorem dX5_init_26 : decode cX5_init 26 = .ok (.aload_n 0, 1) := by decide +kernel
theorem dX5_init_27 : decode cX5_init 27 = .ok (.bipush 63, 2) := by decide +kernel
theorem dX5_init_29 : decode cX5_init 29 = .ok (.newarray .int, 2) := by decide +kernel
theorem dX5_init_31 : decode cX5_init 31 = .ok (.putfield 22, 3) := by decide +kernel
theorem dX5_init_34 : decode cX5_init 34 = .ok (.aload_n 0, 1) := by decide +kernel
theorem dX5_init_35 : decode cX5_init 35 = .ok (.bipush 63, 2) := by decide +kernel
theorem dX5_init_37 : decode cX5_init 37 = .ok (.newarray .int, 2) := by decide +kernel
theorem dX5_init_39 : decode cX5_init 39 = .ok (.putfield 26, 3) := by decide +kernel
theorem dX5_init_42 : decode cX5_init 42 = .ok (.aload_n 0, 1) := by decide +kernel
theorem dX5_init_43 : decode cX5_init 43 = .ok (.bipush 63, 2) := by decide +kernel
theorem dX5_init_45 : decode cX5_init 45 = .ok (.newarray .boolean, 2) := by decide +kernel
theorem dX5_init_47 : decode cX5_init 47 = .ok (.putfield 29, 3) := by decide +kernel
theorem dX5_init_50 : decode cX5_init 50 = .ok (.aload_n 0, 1) := by decide +kernel
theorem dX5_init_51 : decode cX5_init 51 = .ok (.bipush 9, 2) := by decide +kernel
theorem dX5_init_53 : decode cX5_init 53 = .ok (.newarray .int, 2) := by decide +kernel
theorem dX5_init_55 : decode cX5_init 55 = .ok (.putfield 33, 3) := by decide +kernel
theorem dX5_init_58 : decode cX5_init 58 = .ok (.aload_n 0, 1) := by decide +kernel
theorem dX5_init_59 : decode cX5_init 59 = .ok (.bipush 9, 2) := by decide +kernel
theorem dX5_init_61 : decode cX5_init 61 = .ok (.newarray .int, 2) := by decide +kernel
theorem dX5_init_63 : decode cX5_init 63 = .ok (.putfield 36, 3) := by decide +kernel
theorem dX5_init_66 : decode cX5_init 66 = .ok (.aload_n 0, 1) := by decide +kernel
theorem dX5_init_67 : decode cX5_init 67 = .ok (.sipush 2744, 3) := by decide +kernel
theorem dX5_init_70 : decode cX5_init 70 = .ok (.newarray .int, 2) := by decide +kernel
theorem dX5_init_72 : decode cX5_init 72 = .ok (.putfield 39, 3) := by decide +kernel
theorem dX5_init_75 : decode cX5_init 75 = .ok (.aload_n 0, 1) := by decide +kernel
theorem dX5_init_76 : decode cX5_init 76 = .ok (.bipush 9, 2) := by decide +kernel
theorem dX5_init_78 : decode cX5_init 78 = .ok (.newarray .int, 2) := by decide +kernel
theorem dX5_init_80 : decode cX5_init 80 = .ok (.putfield 42, 3) := by decide +kernel
theorem dX5_init_83 : decode cX5_init 83 = .ok (.aload_n 0, 1) := by decide +kernel
theorem dX5_init_84 : decode cX5_init 84 = .ok (.bipush 63, 2) := by decide +kernel
theorem dX5_init_86 : decode cX5_init 86 = .ok (.newarray .int, 2) := by decide +kernel
theorem dX5_init_88 : decode cX5_init 88 = .ok (.putfield 45, 3) := by decide +kernel
theorem dX5_init_91 : decode cX5_init 91 = .ok (.aload_n 0, 1) := by decide +kernel
theorem dX5_init_92 : decode cX5_init 92 = .ok (.bipush 9, 2) := by decide +kernel
theorem dX5_init_94 : decode cX5_init 94 = .ok (.newarray .long, 2) := by decide +kernel
theorem dX5_init_96 : decode cX5_init 96 = .ok (.putfield 48, 3) := by decide +kernel
theorem dX5_init_99 : decode cX5_init 99 = .ok (.aload_n 0, 1) := by decide +kernel
theorem dX5_init_100 : decode cX5_init 100 = .ok (.bipush 9, 2) := by decide +kernel
theorem dX5_init_102 : decode cX5_init 102 = .ok (.newarray .long, 2) := by decide +kernel
theorem dX5_init_104 : decode cX5_init 104 = .ok (.putfield 52, 3) := by decide +kernel
theorem dX5_init_107 : decode cX5_init 107 = .ok (.aload_n 0, 1) := by decide +kernel
theorem dX5_init_108 : decode cX5_init 108 = .ok (.bipush 9, 2) := by decide +kernel
theorem dX5_init_110 : decode cX5_init 110 = .ok (.newarray .long, 2) := by decide +kernel
theorem dX5_init_112 : decode cX5_init 112 = .ok (.putfield 55, 3) := by decide +kernel
theorem dX5_init_115 : decode cX5_init 115 = .ok (.aload_n 0, 1) := by decide +kernel
theorem dX5_init_116 : decode cX5_init 116 = .ok (.bipush 9, 2) := by decide +kernel
theorem dX5_init_118 : decode cX5_init 118 = .ok (.newarray .long, 2) := by decide +kernel
theorem dX5_init_120 : decode cX5_init 120 = .ok (.putfield 58, 3) := by decide +kernel
theorem dX5_init_123 : decode cX5_init 123 = .ok (.aload_n 0, 1) := by decide +kernel
theorem dX5_init_124 : decode cX5_init 124 = .ok (.bipush 7, 2) := by decide +kernel
theorem dX5_init_126 : decode cX5_init 126 = .ok (.putfield 61, 3) := by decide +kernel
theorem dX5_init_129 : decode cX5_init 129 = .ok (.aload_n 0, 1) := by decide +kernel
theorem dX5_init_130 : decode cX5_init 130 = .ok (.iconst 5, 1) := by decide +kernel
theorem dX5_init_131 : decode cX5_init 131 = .ok (.putfield 64, 3) := by decide +kernel
theorem dX5_init_134 : decode cX5_init 134 = .ok (.return_, 1) := by decide +kernel
theorem dX5_within_0 : decode cX5_within 0 = .ok (.lload_n 0, 1) := by decide +kernel
theorem dX5_within_1 : decode cX5_within 1 = .ok (.lload_n 2, 1) := by decide +kernel
theorem dX5_within_2 : decode cX5_within 2 = .ok (.lcmp, 1) := by decide +kernel
theorem dX5_within_3 : decode cX5_within 3 = .ok (.ifCond .lt 14, 3) := by decide +kernel
theorem dX5_within_6 : decode cX5_within 6 = .ok (.lload_n 0, 1) := by decide +kernel
theorem dX5_within_7 : decode cX5_within 7 = .ok (.lload 4, 2) := by decide +kernel
theorem dX5_within_9 : decode cX5_within 9 = .ok (.lcmp, 1) := by decide +kernel
theorem dX5_within_10 : decode cX5_within 10 = .ok (.ifCond .gt 7, 3) := by decide +kernel
theorem dX5_within_13 : decode cX5_within 13 = .ok (.iconst 1, 1) := by decide +kernel
theorem dX5_within_14 : decode cX5_within 14 = .ok (.goto 4, 3) := by decide +kernel
theorem dX5_within_17 : decode cX5_within 17 = .ok (.iconst 0, 1) := by decide +kernel
theorem dX5_within_18 : decode cX5_within 18 = .ok (.ireturn, 1) := by decide +kernel
theorem dX5_far_0 : decode cX5_far 0 = .ok (.iload_n 0, 1) := by decide +kernel
theorem dX5_far_1 : decode cX5_far 1 = .ok (.ifCond .ge 8, 3) := by decide +kernel
theorem dX5_far_4 : decode cX5_far 4 = .ok (.iload_n 0, 1) := by decide +kernel
theorem dX5_far_5 : decode cX5_far 5 = .ok (.ineg, 1) := by decide +kernel
theorem dX5_far_6 : decode cX5_far 6 = .ok (.goto 4, 3) := by decide +kernel
theorem dX5_far_9 : decode cX5_far 9 = .ok (.iload_n 0, 1) := by decide +kernel
theorem dX5_far_10 : decode cX5_far 10 = .ok (.ireturn, 1) := by decide +kernel
theorem dX5_isPoint_0 : decode cX5_isPoint 0 = .ok (.iload_n 1, 1) := by decide +kernel
theorem dX5_isPoint_1 : decode cX5_isPoint 1 = .ok (.i2l, 1) := by decide +kernel
theorem dX5_isPoint_2 : decode cX5_isPoint 2 = .ok (.lconst 0, 1) := by decide +kernel
theorem dX5_isPoint_3 : decode cX5_isPoint 3 = .ok (.aload_n 0, 1) := by decide +kernel
theorem dX5_isPoint_4 : decode cX5_isPoint 4 = .ok (.getfield 61, 3) := by decide +kernel
theorem dX5_isPoint_7 : decode cX5_isPoint 7 = .ok (.iconst 1, 1) := by decide +kernel
theorem dX5_isPoint_8 : decode cX5_isPoint 8 = .ok (.isub, 1) := by decide +kernel
theorem dX5_isPoint_9 : decode cX5_isPoint 9 = .ok (.i2l, 1) := by decide +kernel
theorem dX5_isPoint_10 : decode cX5_isPoint 10 = .ok (.invokestatic 67, 3) := by decide +kernel
theorem dX5_isPoint_13 : decode cX5_isPoint 13 = .ok (.ifCond .eq 23, 3) := by decide +kernel
theorem dX5_isPoint_16 : decode cX5_isPoint 16 = .ok (.iload_n 2, 1) := by decide +kernel
theorem dX5_isPoint_17 : decode cX5_isPoint 17 = .ok (.i2l, 1) := by decide +kernel
theorem dX5_isPoint_18 : decode cX5_isPoint 18 = .ok (.lconst 0, 1) := by decide +kernel
theorem dX5_isPoint_19 : decode cX5_isPoint 19 = .ok (.aload_n 0, 1) := by decide +kernel
theorem dX5_isPoint_20 : decode cX5_isPoint 20 = .ok (.getfield 64, 3) := by decide +kernel
theorem dX5_isPoint_23 : decode cX5_isPoint 23 = .ok (.iconst 1, 1) := by decide +kernel
theorem dX5_isPoint_24 : decode cX5_isPoint 24 = .ok (.isub, 1) := by decide +kernel
theorem dX5_isPoint_25 : decode cX5_isPoint 25 = .ok (.i2l, 1) := by decide +kernel
theorem dX5_isPoint_26 : decode cX5_isPoint 26 = .ok (.invokestatic 67, 3) := by decide +kernel
theorem dX5_isPoint_29 : decode cX5_isPoint 29 = .ok (.ifCond .eq 7, 3) := by decide +kernel
theorem dX5_isPoint_32 : decode cX5_isPoint 32 = .ok (.iconst 1, 1) := by decide +kernel
theorem dX5_isPoint_33 : decode cX5_isPoint 33 = .ok (.goto 4, 3) := by decide +kernel
theorem dX5_isPoint_36 : decode cX5_isPoint 36 = .ok (.iconst 0, 1) := by decide +kernel
theorem dX5_isPoint_37 : decode cX5_isPoint 37 = .ok (.ireturn, 1) := by decide +kernel
theorem dX5_isOffset_0 : decode cX5_isOffset 0 = .ok (.iload_n 0, 1) := by decide +kernel
theorem dX5_isOffset_1 : decode cX5_isOffset 1 = .ok (.i2l, 1) := by decide +kernel
theorem dX5_isOffset_2 : decode cX5_isOffset 2 = .ok (.lconst 0, 1) := by decide +kernel
theorem dX5_isOffset_3 : decode cX5_isOffset 3 = .ok (.ldc2_w 71, 3) := by decide +kernel
theorem dX5_isOffset_6 : decode cX5_isOffset 6 = .ok (.invokestatic 67, 3) := by decide +kernel
theorem dX5_isOffset_9 : decode cX5_isOffset 9 = .ok (.ireturn, 1) := by decide +kernel
theorem dX5_hull_0 : decode cX5_hull 0 = .ok (.iload_n 1, 1) := by decide +kernel
theorem dX5_hull_1 : decode cX5_hull 1 = .ok (.i2l, 1) := by decide +kernel
theorem dX5_hull_2 : decode cX5_hull 2 = .ok (.ldc2_w 73, 3) := by decide +kernel
theorem dX5_hull_5 : decode cX5_hull 5 = .ok (.ldc2_w 75, 3) := by decide +kernel
theorem dX5_hull_8 : decode cX5_hull 8 = .ok (.invokestatic 67, 3) := by decide +kernel
theorem dX5_hull_11 : decode cX5_hull 11 = .ok (.ifCond .eq 17, 3) := by decide +kernel
theorem dX5_hull_14 : decode cX5_hull 14 = .ok (.iload_n 2, 1) := by decide +kernel
theorem dX5_hull_15 : decode cX5_hull 15 = .ok (.i2l, 1) := by decide +kernel
theorem dX5_hull_16 : decode cX5_hull 16 = .ok (.ldc2_w 77, 3) := by decide +kernel
theorem dX5_hull_19 : decode cX5_hull 19 = .ok (.ldc2_w 79, 3) := by decide +kernel
theorem dX5_hull_22 : decode cX5_hull 22 = .ok (.invokestatic 67, 3) := by decide +kernel
theorem dX5_hull_25 : decode cX5_hull 25 = .ok (.ifCond .ne 6, 3) := by decide +kernel
theorem dX5_hull_28 : decode cX5_hull 28 = .ok (.bipush (-2), 2) := by decide +kernel
theorem dX5_hull_30 : decode cX5_hull 30 = .ok (.ireturn, 1) := by decide +kernel
theorem dX5_hull_31 : decode cX5_hull 31 = .ok (.aload_n 0, 1) := by decide +kernel
theorem dX5_hull_32 : decode cX5_hull 32 = .ok (.iload_n 1, 1) := by decide +kernel
theorem dX5_hull_33 : decode cX5_hull 33 = .ok (.putfield 61, 3) := by decide +kernel
theorem dX5_hull_36 : decode cX5_hull 36 = .ok (.aload_n 0, 1) := by decide +kernel
theorem dX5_hull_37 : decode cX5_hull 37 = .ok (.iload_n 2, 1) := by decide +kernel
theorem dX5_hull_38 : decode cX5_hull 38 = .ok (.putfield 64, 3) := by decide +kernel
theorem dX5_hull_41 : decode cX5_hull 41 = .ok (.iconst 0, 1) := by decide +kernel
theorem dX5_hull_42 : decode cX5_hull 42 = .ok (.istore_n 3, 1) := by decide +kernel
theorem dX5_hull_43 : decode cX5_hull 43 = .ok (.iload_n 3, 1) := by decide +kernel
theorem dX5_hull_44 : decode cX5_hull 44 = .ok (.bipush 63, 2) := by decide +kernel
theorem dX5_hull_46 : decode cX5_hull 46 = .ok (.if_icmp .ge 30, 3) := by decide +kernel
theorem dX5_hull_49 : decode cX5_hull 49 = .ok (.aload_n 0, 1) := by decide +kernel
theorem dX5_hull_50 : decode cX5_hull 50 = .ok (.getfield 22, 3) := by decide +kernel
theorem dX5_hull_53 : decode cX5_hull 53 = .ok (.iload_n 3, 1) := by decide +kernel
theorem dX5_hull_54 : decode cX5_hull 54 = .ok (.iconst 0, 1) := by decide +kernel
theorem dX5_hull_55 : decode cX5_hull 55 = .ok (.iastore, 1) := by decide +kernel
theorem dX5_hull_56 : decode cX5_hull 56 = .ok (.aload_n 0, 1) := by decide +kernel
theorem dX5_hull_57 : decode cX5_hull 57 = .ok (.getfield 26, 3) := by decide +kernel
theorem dX5_hull_60 : decode cX5_hull 60 = .ok (.iload_n 3, 1) := by decide +kernel
theorem dX5_hull_61 : decode cX5_hull 61 = .ok (.iconst 0, 1) := by decide +kernel
theorem dX5_hull_62 : decode cX5_hull 62 = .ok (.iastore, 1) := by decide +kernel
theorem dX5_hull_63 : decode cX5_hull 63 = .ok (.aload_n 0, 1) := by decide +kernel
theorem dX5_hull_64 : decode cX5_hull 64 = .ok (.getfield 29, 3) := by decide +kernel
theorem dX5_hull_67 : decode cX5_hull 67 = .ok (.iload_n 3, 1) := by decide +kernel
theorem dX5_hull_68 : decode cX5_hull 68 = .ok (.iconst 0, 1) := by decide +kernel
theorem dX5_hull_69 : decode cX5_hull 69 = .ok (.bastore, 1) := by decide +kernel
theorem dX5_hull_70 : decode cX5_hull 70 = .ok (.iinc 3 1, 3) := by decide +kernel
theorem dX5_hull_73 : decode cX5_hull 73 = .ok (.goto (-30), 3) := by decide +kernel
theorem dX5_hull_76 : decode cX5_hull 76 = .ok (.iconst 1, 1) := by decide +kernel
theorem dX5_hull_77 : decode cX5_hull 77 = .ok (.ireturn, 1) := by decide +kernel
theorem dX5_offset_0 : decode cX5_offset 0 = .ok (.aload_n 0, 1) := by decide +kernel
theorem dX5_offset_1 : decode cX5_offset 1 = .ok (.iload_n 1, 1) := by decide +kernel
theorem dX5_offset_2 : decode cX5_offset 2 = .ok (.iload_n 2, 1) := by decide +kernel
theorem dX5_offset_3 : decode cX5_offset 3 = .ok (.invokevirtual 81, 3) := by decide +kernel
theorem dX5_offset_6 : decode cX5_offset 6 = .ok (.ifCond .ne 5, 3) := by decide +kernel
theorem dX5_offset_9 : decode cX5_offset 9 = .ok (.iconst (-1), 1) := by decide +kernel
theorem dX5_offset_10 : decode cX5_offset 10 = .ok (.ireturn, 1) := by decide +kernel
theorem dX5_offset_11 : decode cX5_offset 11 = .ok (.iload_n 3, 1) := by decide +kernel
theorem dX5_offset_12 : decode cX5_offset 12 = .ok (.invokestatic 85, 3) := by decide +kernel
theorem dX5_offset_15 : decode cX5_offset 15 = .ok (.ifCond .ne 6, 3) := by decide +kernel
theorem dX5_offset_18 : decode cX5_offset 18 = .ok (.bipush (-2), 2) := by decide +kernel
theorem dX5_offset_20 : decode cX5_offset 20 = .ok (.ireturn, 1) := by decide +kernel
theorem dX5_offset_21 : decode cX5_offset 21 = .ok (.aload_n 0, 1) := by decide +kernel
theorem dX5_offset_22 : decode cX5_offset 22 = .ok (.getfield 22, 3) := by decide +kernel
theorem dX5_offset_25 : decode cX5_offset 25 = .ok (.bipush 7, 2) := by decide +kernel
theorem dX5_offset_27 : decode cX5_offset 27 = .ok (.iload_n 1, 1) := by decide +kernel
theorem dX5_offset_28 : decode cX5_offset 28 = .ok (.imul, 1) := by decide +kernel
theorem dX5_offset_29 : decode cX5_offset 29 = .ok (.iload_n 2, 1) := by decide +kernel
theorem dX5_offset_30 : decode cX5_offset 30 = .ok (.iadd, 1) := by decide +kernel
theorem dX5_offset_31 : decode cX5_offset 31 = .ok (.iaload, 1) := by decide +kernel
theorem dX5_offset_32 : decode cX5_offset 32 = .ok (.istore 4, 2) := by decide +kernel
theorem dX5_offset_34 : decode cX5_offset 34 = .ok (.aload_n 0, 1) := by decide +kernel
theorem dX5_offset_35 : decode cX5_offset 35 = .ok (.getfield 22, 3) := by decide +kernel
theorem dX5_offset_38 : decode cX5_offset 38 = .ok (.bipush 7, 2) := by decide +kernel
theorem dX5_offset_40 : decode cX5_offset 40 = .ok (.iload_n 1, 1) := by decide +kernel
theorem dX5_offset_41 : decode cX5_offset 41 = .ok (.imul, 1) := by decide +kernel
theorem dX5_offset_42 : decode cX5_offset 42 = .ok (.iload_n 2, 1) := by decide +kernel
theorem dX5_offset_43 : decode cX5_offset 43 = .ok (.iadd, 1) := by decide +kernel
theorem dX5_offset_44 : decode cX5_offset 44 = .ok (.iload_n 3, 1) := by decide +kernel
theorem dX5_offset_45 : decode cX5_offset 45 = .ok (.iastore, 1) := by decide +kernel
theorem dX5_offset_46 : decode cX5_offset 46 = .ok (.aload_n 0, 1) := by decide +kernel
theorem dX5_offset_47 : decode cX5_offset 47 = .ok (.getfield 26, 3) := by decide +kernel
theorem dX5_offset_50 : decode cX5_offset 50 = .ok (.bipush 7, 2) := by decide +kernel
theorem dX5_offset_52 : decode cX5_offset 52 = .ok (.iload_n 1, 1) := by decide +kernel
theorem dX5_offset_53 : decode cX5_offset 53 = .ok (.imul, 1) := by decide +kernel
theorem dX5_offset_54 : decode cX5_offset 54 = .ok (.iload_n 2, 1) := by decide +kernel
theorem dX5_offset_55 : decode cX5_offset 55 = .ok (.iadd, 1) := by decide +kernel
theorem dX5_offset_56 : decode cX5_offset 56 = .ok (.iload_n 3, 1) := by decide +kernel
theorem dX5_offset_57 : decode cX5_offset 57 = .ok (.iastore, 1) := by decide +kernel
theorem dX5_offset_58 : decode cX5_offset 58 = .ok (.iload 4, 2) := by decide +kernel
theorem dX5_offset_60 : decode cX5_offset 60 = .ok (.ireturn, 1) := by decide +kernel
theorem dX5_hold_0 : decode cX5_hold 0 = .ok (.aload_n 0, 1) := by decide +kernel
theorem dX5_hold_1 : decode cX5_hold 1 = .ok (.iload_n 1, 1) := by decide +kernel
theorem dX5_hold_2 : decode cX5_hold 2 = .ok (.iload_n 2, 1) := by decide +kernel
theorem dX5_hold_3 : decode cX5_hold 3 = .ok (.invokevirtual 81, 3) := by decide +kernel
theorem dX5_hold_6 : decode cX5_hold 6 = .ok (.ifCond .ne 5, 3) := by decide +kernel
theorem dX5_hold_9 : decode cX5_hold 9 = .ok (.iconst (-1), 1) := by decide +kernel
theorem dX5_hold_10 : decode cX5_hold 10 = .ok (.ireturn, 1) := by decide +kernel
theorem dX5_hold_11 : decode cX5_hold 11 = .ok (.aload_n 0, 1) := by decide +kernel
theorem dX5_hold_12 : decode cX5_hold 12 = .ok (.getfield 29, 3) := by decide +kernel
theorem dX5_hold_15 : decode cX5_hold 15 = .ok (.bipush 7, 2) := by decide +kernel
theorem dX5_hold_17 : decode cX5_hold 17 = .ok (.iload_n 1, 1) := by decide +kernel
theorem dX5_hold_18 : decode cX5_hold 18 = .ok (.imul, 1) := by decide +kernel
theorem dX5_hold_19 : decode cX5_hold 19 = .ok (.iload_n 2, 1) := by decide +kernel
theorem dX5_hold_20 : decode cX5_hold 20 = .ok (.iadd, 1) := by decide +kernel
theorem dX5_hold_21 : decode cX5_hold 21 = .ok (.baload, 1) := by decide +kernel
theorem dX5_hold_22 : decode cX5_hold 22 = .ok (.istore 4, 2) := by decide +kernel
theorem dX5_hold_24 : decode cX5_hold 24 = .ok (.aload_n 0, 1) := by decide +kernel
theorem dX5_hold_25 : decode cX5_hold 25 = .ok (.getfield 29, 3) := by decide +kernel
theorem dX5_hold_28 : decode cX5_hold 28 = .ok (.bipush 7, 2) := by decide +kernel
theorem dX5_hold_30 : decode cX5_hold 30 = .ok (.iload_n 1, 1) := by decide +kernel
theorem dX5_hold_31 : decode cX5_hold 31 = .ok (.imul, 1) := by decide +kernel
theorem dX5_hold_32 : decode cX5_hold 32 = .ok (.iload_n 2, 1) := by decide +kernel
theorem dX5_hold_33 : decode cX5_hold 33 = .ok (.iadd, 1) := by decide +kernel
theorem dX5_hold_34 : decode cX5_hold 34 = .ok (.iload_n 3, 1) := by decide +kernel
theorem dX5_hold_35 : decode cX5_hold 35 = .ok (.bastore, 1) := by decide +kernel
theorem dX5_hold_36 : decode cX5_hold 36 = .ok (.iload 4, 2) := by decide +kernel
theorem dX5_hold_38 : decode cX5_hold 38 = .ok (.iload_n 3, 1) := by decide +kernel
theorem dX5_hold_39 : decode cX5_hold 39 = .ok (.if_icmp .ne 7, 3) := by decide +kernel
theorem dX5_hold_42 : decode cX5_hold 42 = .ok (.iconst 0, 1) := by decide +kernel
theorem dX5_hold_43 : decode cX5_hold 43 = .ok (.goto 4, 3) := by decide +kernel
theorem dX5_hold_46 : decode cX5_hold 46 = .ok (.iconst 1, 1) := by decide +kernel
theorem dX5_hold_47 : decode cX5_hold 47 = .ok (.ireturn, 1) := by decide +kernel
theorem dX5_setting_0 : decode cX5_setting 0 = .ok (.iconst 0, 1) := by decide +kernel
theorem dX5_setting_1 : decode cX5_setting 1 = .ok (.istore_n 3, 1) := by decide +kernel
theorem dX5_setting_2 : decode cX5_setting 2 = .ok (.iload_n 1, 1) := by decide +kernel
theorem dX5_setting_3 : decode cX5_setting 3 = .ok (.tableswitch 137 0 3 #[29, 56, 83, 110], 29) := by decide +kernel
theorem dX5_setting_32 : decode cX5_setting 32 = .ok (.iload_n 2, 1) := by decide +kernel
theorem dX5_setting_33 : decode cX5_setting 33 = .ok (.i2l, 1) := by decide +kernel
theorem dX5_setting_34 : decode cX5_setting 34 = .ok (.lconst 0, 1) := by decide +kernel
theorem dX5_setting_35 : decode cX5_setting 35 = .ok (.ldc2_w 71, 3) := by decide +kernel
theorem dX5_setting_38 : decode cX5_setting 38 = .ok (.invokestatic 67, 3) := by decide +kernel
theorem dX5_setting_41 : decode cX5_setting 41 = .ok (.ifCond .ne 6, 3) := by decide +kernel
theorem dX5_setting_44 : decode cX5_setting 44 = .ok (.bipush (-2), 2) := by decide +kernel
theorem dX5_setting_46 : decode cX5_setting 46 = .ok (.ireturn, 1) := by decide +kernel
theorem dX5_setting_47 : decode cX5_setting 47 = .ok (.aload_n 0, 1) := by decide +kernel
theorem dX5_setting_48 : decode cX5_setting 48 = .ok (.getfield 7, 3) := by decide +kernel
theorem dX5_setting_51 : decode cX5_setting 51 = .ok (.istore_n 3, 1) := by decide +kernel
theorem dX5_setting_52 : decode cX5_setting 52 = .ok (.aload_n 0, 1) := by decide +kernel
theorem dX5_setting_53 : decode cX5_setting 53 = .ok (.iload_n 2, 1) := by decide +kernel
theorem dX5_setting_54 : decode cX5_setting 54 = .ok (.putfield 7, 3) := by decide +kernel
theorem dX5_setting_57 : decode cX5_setting 57 = .ok (.iload_n 3, 1) := by decide +kernel
theorem dX5_setting_58 : decode cX5_setting 58 = .ok (.ireturn, 1) := by decide +kernel
theorem dX5_setting_59 : decode cX5_setting 59 = .ok (.iload_n 2, 1) := by decide +kernel
theorem dX5_setting_60 : decode cX5_setting 60 = .ok (.i2l, 1) := by decide +kernel
theorem dX5_setting_61 : decode cX5_setting 61 = .ok (.lconst 0, 1) := by decide +kernel
theorem dX5_setting_62 : decode cX5_setting 62 = .ok (.ldc2_w 89, 3) := by decide +kernel
theorem dX5_setting_65 : decode cX5_setting 65 = .ok (.invokestatic 67, 3) := by decide +kernel
theorem dX5_setting_68 : decode cX5_setting 68 = .ok (.ifCond .ne 6, 3) := by decide +kernel
theorem dX5_setting_71 : decode cX5_setting 71 = .ok (.bipush (-2), 2) := by decide +kernel
theorem dX5_setting_73 : decode cX5_setting 73 = .ok (.ireturn, 1) := by decide +kernel
theorem dX5_setting_74 : decode cX5_setting 74 = .ok (.aload_n 0, 1) := by decide +kernel
theorem dX5_setting_75 : decode cX5_setting 75 = .ok (.getfield 13, 3) := by decide +kernel
theorem dX5_setting_78 : decode cX5_setting 78 = .ok (.istore_n 3, 1) := by decide +kernel
theorem dX5_setting_79 : decode cX5_setting 79 = .ok (.aload_n 0, 1) := by decide +kernel
theorem dX5_setting_80 : decode cX5_setting 80 = .ok (.iload_n 2, 1) := by decide +kernel
theorem dX5_setting_81 : decode cX5_setting 81 = .ok (.putfield 13, 3) := by decide +kernel
theorem dX5_setting_84 : decode cX5_setting 84 = .ok (.iload_n 3, 1) := by decide +kernel
theorem dX5_setting_85 : decode cX5_setting 85 = .ok (.ireturn, 1) := by decide +kernel
theorem dX5_setting_86 : decode cX5_setting 86 = .ok (.iload_n 2, 1) := by decide +kernel
theorem dX5_setting_87 : decode cX5_setting 87 = .ok (.i2l, 1) := by decide +kernel
theorem dX5_setting_88 : decode cX5_setting 88 = .ok (.lconst 1, 1) := by decide +kernel
theorem dX5_setting_89 : decode cX5_setting 89 = .ok (.ldc2_w 91, 3) := by decide +kernel
theorem dX5_setting_92 : decode cX5_setting 92 = .ok (.invokestatic 67, 3) := by decide +kernel
theorem dX5_setting_95 : decode cX5_setting 95 = .ok (.ifCond .ne 6, 3) := by decide +kernel
theorem dX5_setting_98 : decode cX5_setting 98 = .ok (.bipush (-2), 2) := by decide +kernel
theorem dX5_setting_100 : decode cX5_setting 100 = .ok (.ireturn, 1) := by decide +kernel
theorem dX5_setting_101 : decode cX5_setting 101 = .ok (.aload_n 0, 1) := by decide +kernel
theorem dX5_setting_102 : decode cX5_setting 102 = .ok (.getfield 16, 3) := by decide +kernel
theorem dX5_setting_105 : decode cX5_setting 105 = .ok (.istore_n 3, 1) := by decide +kernel
theorem dX5_setting_106 : decode cX5_setting 106 = .ok (.aload_n 0, 1) := by decide +kernel
theorem dX5_setting_107 : decode cX5_setting 107 = .ok (.iload_n 2, 1) := by decide +kernel
theorem dX5_setting_108 : decode cX5_setting 108 = .ok (.putfield 16, 3) := by decide +kernel
theorem dX5_setting_111 : decode cX5_setting 111 = .ok (.iload_n 3, 1) := by decide +kernel
theorem dX5_setting_112 : decode cX5_setting 112 = .ok (.ireturn, 1) := by decide +kernel
theorem dX5_setting_113 : decode cX5_setting 113 = .ok (.iload_n 2, 1) := by decide +kernel
theorem dX5_setting_114 : decode cX5_setting 114 = .ok (.i2l, 1) := by decide +kernel
theorem dX5_setting_115 : decode cX5_setting 115 = .ok (.lconst 1, 1) := by decide +kernel
theorem dX5_setting_116 : decode cX5_setting 116 = .ok (.ldc2_w 91, 3) := by decide +kernel
theorem dX5_setting_119 : decode cX5_setting 119 = .ok (.invokestatic 67, 3) := by decide +kernel
theorem dX5_setting_122 : decode cX5_setting 122 = .ok (.ifCond .ne 6, 3) := by decide +kernel
theorem dX5_setting_125 : decode cX5_setting 125 = .ok (.bipush (-2), 2) := by decide +kernel
theorem dX5_setting_127 : decode cX5_setting 127 = .ok (.ireturn, 1) := by decide +kernel
theorem dX5_setting_128 : decode cX5_setting 128 = .ok (.aload_n 0, 1) := by decide +kernel
theorem dX5_setting_129 : decode cX5_setting 129 = .ok (.getfield 19, 3) := by decide +kernel
theorem dX5_setting_132 : decode cX5_setting 132 = .ok (.istore_n 3, 1) := by decide +kernel
theorem dX5_setting_133 : decode cX5_setting 133 = .ok (.aload_n 0, 1) := by decide +kernel
theorem dX5_setting_134 : decode cX5_setting 134 = .ok (.iload_n 2, 1) := by decide +kernel
theorem dX5_setting_135 : decode cX5_setting 135 = .ok (.putfield 19, 3) := by decide +kernel
theorem dX5_setting_138 : decode cX5_setting 138 = .ok (.iload_n 3, 1) := by decide +kernel
theorem dX5_setting_139 : decode cX5_setting 139 = .ok (.ireturn, 1) := by decide +kernel
theorem dX5_setting_140 : decode cX5_setting 140 = .ok (.bipush (-2), 2) := by decide +kernel
theorem dX5_setting_142 : decode cX5_setting 142 = .ok (.ireturn, 1) := by decide +kernel
theorem dX5_ofPoint_0 : decode cX5_ofPoint 0 = .ok (.aload_n 0, 1) := by decide +kernel
theorem dX5_ofPoint_1 : decode cX5_ofPoint 1 = .ok (.iload_n 1, 1) := by decide +kernel
theorem dX5_ofPoint_2 : decode cX5_ofPoint 2 = .ok (.iload_n 2, 1) := by decide +kernel
theorem dX5_ofPoint_3 : decode cX5_ofPoint 3 = .ok (.invokevirtual 81, 3) := by decide +kernel
theorem dX5_ofPoint_6 : decode cX5_ofPoint 6 = .ok (.ifCond .ne 5, 3) := by decide +kernel
theorem dX5_ofPoint_9 : decode cX5_ofPoint 9 = .ok (.iconst (-1), 1) := by decide +kernel
theorem dX5_ofPoint_10 : decode cX5_ofPoint 10 = .ok (.ireturn, 1) := by decide +kernel
theorem dX5_ofPoint_11 : decode cX5_ofPoint 11 = .ok (.bipush 7, 2) := by decide +kernel
theorem dX5_ofPoint_13 : decode cX5_ofPoint 13 = .ok (.iload_n 1, 1) := by decide +kernel
theorem dX5_ofPoint_14 : decode cX5_ofPoint 14 = .ok (.imul, 1) := by decide +kernel
theorem dX5_ofPoint_15 : decode cX5_ofPoint 15 = .ok (.iload_n 2, 1) := by decide +kernel
theorem dX5_ofPoint_16 : decode cX5_ofPoint 16 = .ok (.iadd, 1) := by decide +kernel
theorem dX5_ofPoint_17 : decode cX5_ofPoint 17 = .ok (.istore 4, 2) := by decide +kernel
theorem dX5_ofPoint_19 : decode cX5_ofPoint 19 = .ok (.iload_n 3, 1) := by decide +kernel
theorem dX5_ofPoint_20 : decode cX5_ofPoint 20 = .ok (.tableswitch 68 0 2 #[28, 36, 52], 28) := by decide +kernel
theorem dX5_ofPoint_48 : decode cX5_ofPoint 48 = .ok (.aload_n 0, 1) := by decide +kernel
theorem dX5_ofPoint_49 : decode cX5_ofPoint 49 = .ok (.getfield 22, 3) := by decide +kernel
theorem dX5_ofPoint_52 : decode cX5_ofPoint 52 = .ok (.iload 4, 2) := by decide +kernel
theorem dX5_ofPoint_54 : decode cX5_ofPoint 54 = .ok (.iaload, 1) := by decide +kernel
theorem dX5_ofPoint_55 : decode cX5_ofPoint 55 = .ok (.ireturn, 1) := by decide +kernel
theorem dX5_ofPoint_56 : decode cX5_ofPoint 56 = .ok (.aload_n 0, 1) := by decide +kernel
theorem dX5_ofPoint_57 : decode cX5_ofPoint 57 = .ok (.getfield 29, 3) := by decide +kernel
theorem dX5_ofPoint_60 : decode cX5_ofPoint 60 = .ok (.iload 4, 2) := by decide +kernel
theorem dX5_ofPoint_62 : decode cX5_ofPoint 62 = .ok (.baload, 1) := by decide +kernel
theorem dX5_ofPoint_63 : decode cX5_ofPoint 63 = .ok (.ifCond .eq 7, 3) := by decide +kernel
theorem dX5_ofPoint_66 : decode cX5_ofPoint 66 = .ok (.iconst 1, 1) := by decide +kernel
theorem dX5_ofPoint_67 : decode cX5_ofPoint 67 = .ok (.goto 4, 3) := by decide +kernel
theorem dX5_ofPoint_70 : decode cX5_ofPoint 70 = .ok (.iconst 0, 1) := by decide +kernel
theorem dX5_ofPoint_71 : decode cX5_ofPoint 71 = .ok (.ireturn, 1) := by decide +kernel
theorem dX5_ofPoint_72 : decode cX5_ofPoint 72 = .ok (.aload_n 0, 1) := by decide +kernel
theorem dX5_ofPoint_73 : decode cX5_ofPoint 73 = .ok (.getfield 22, 3) := by decide +kernel
theorem dX5_ofPoint_76 : decode cX5_ofPoint 76 = .ok (.iload 4, 2) := by decide +kernel
theorem dX5_ofPoint_78 : decode cX5_ofPoint 78 = .ok (.iaload, 1) := by decide +kernel
theorem dX5_ofPoint_79 : decode cX5_ofPoint 79 = .ok (.aload_n 0, 1) := by decide +kernel
theorem dX5_ofPoint_80 : decode cX5_ofPoint 80 = .ok (.getfield 26, 3) := by decide +kernel
theorem dX5_ofPoint_83 : decode cX5_ofPoint 83 = .ok (.iload 4, 2) := by decide +kernel
theorem dX5_ofPoint_85 : decode cX5_ofPoint 85 = .ok (.iaload, 1) := by decide +kernel
theorem dX5_ofPoint_86 : decode cX5_ofPoint 86 = .ok (.isub, 1) := by decide +kernel
theorem dX5_ofPoint_87 : decode cX5_ofPoint 87 = .ok (.ireturn, 1) := by decide +kernel
theorem dX5_ofPoint_88 : decode cX5_ofPoint 88 = .ok (.bipush (-2), 2) := by decide +kernel
theorem dX5_ofPoint_90 : decode cX5_ofPoint 90 = .ok (.ireturn, 1) := by decide +kernel
theorem dX5_isView_0 : decode cX5_isView 0 = .ok (.iload_n 0, 1) := by decide +kernel
theorem dX5_isView_1 : decode cX5_isView 1 = .ok (.ifCond .eq 8, 3) := by decide +kernel
theorem dX5_isView_4 : decode cX5_isView 4 = .ok (.iload_n 0, 1) := by decide +kernel
theorem dX5_isView_5 : decode cX5_isView 5 = .ok (.iconst 1, 1) := by decide +kernel
theorem dX5_isView_6 : decode cX5_isView 6 = .ok (.if_icmp .ne 7, 3) := by decide +kernel
theorem dX5_isView_9 : decode cX5_isView 9 = .ok (.iconst 1, 1) := by decide +kernel
theorem dX5_isView_10 : decode cX5_isView 10 = .ok (.goto 4, 3) := by decide +kernel
theorem dX5_isView_13 : decode cX5_isView 13 = .ok (.iconst 0, 1) := by decide +kernel
theorem dX5_isView_14 : decode cX5_isView 14 = .ok (.ireturn, 1) := by decide +kernel
theorem dX5_linesOf_0 : decode cX5_linesOf 0 = .ok (.iload_n 1, 1) := by decide +kernel
theorem dX5_linesOf_1 : decode cX5_linesOf 1 = .ok (.ifCond .ne 10, 3) := by decide +kernel
theorem dX5_linesOf_4 : decode cX5_linesOf 4 = .ok (.aload_n 0, 1) := by decide +kernel
theorem dX5_linesOf_5 : decode cX5_linesOf 5 = .ok (.getfield 64, 3) := by decide +kernel
theorem dX5_linesOf_8 : decode cX5_linesOf 8 = .ok (.goto 7, 3) := by decide +kernel
theorem dX5_linesOf_11 : decode cX5_linesOf 11 = .ok (.aload_n 0, 1) := by decide +kernel
theorem dX5_linesOf_12 : decode cX5_linesOf 12 = .ok (.getfield 61, 3) := by decide +kernel
theorem dX5_linesOf_15 : decode cX5_linesOf 15 = .ok (.ireturn, 1) := by decide +kernel
theorem dX5_isLine_0 : decode cX5_isLine 0 = .ok (.iload_n 2, 1) := by decide +kernel
theorem dX5_isLine_1 : decode cX5_isLine 1 = .ok (.i2l, 1) := by decide +kernel
theorem dX5_isLine_2 : decode cX5_isLine 2 = .ok (.lconst 0, 1) := by decide +kernel
theorem dX5_isLine_3 : decode cX5_isLine 3 = .ok (.aload_n 0, 1) := by decide +kernel
theorem dX5_isLine_4 : decode cX5_isLine 4 = .ok (.iload_n 1, 1) := by decide +kernel
theorem dX5_isLine_5 : decode cX5_isLine 5 = .ok (.invokevirtual 93, 3) := by decide +kernel
theorem dX5_isLine_8 : decode cX5_isLine 8 = .ok (.iconst 1, 1) := by decide +kernel
theorem dX5_isLine_9 : decode cX5_isLine 9 = .ok (.isub, 1) := by decide +kernel
theorem dX5_isLine_10 : decode cX5_isLine 10 = .ok (.i2l, 1) := by decide +kernel
theorem dX5_isLine_11 : decode cX5_isLine 11 = .ok (.invokestatic 67, 3) := by decide +kernel
theorem dX5_isLine_14 : decode cX5_isLine 14 = .ok (.ireturn, 1) := by decide +kernel
theorem dX5_lays_0 : decode cX5_lays 0 = .ok (.aload_n 0, 1) := by decide +kernel
theorem dX5_lays_1 : decode cX5_lays 1 = .ok (.iload_n 1, 1) := by decide +kernel
theorem dX5_lays_2 : decode cX5_lays 2 = .ok (.ifCond .ne 10, 3) := by decide +kernel
theorem dX5_lays_5 : decode cX5_lays 5 = .ok (.aload_n 0, 1) := by decide +kernel
theorem dX5_lays_6 : decode cX5_lays 6 = .ok (.getfield 61, 3) := by decide +kernel
theorem dX5_lays_9 : decode cX5_lays 9 = .ok (.goto 7, 3) := by decide +kernel
theorem dX5_lays_12 : decode cX5_lays 12 = .ok (.aload_n 0, 1) := by decide +kernel
theorem dX5_lays_13 : decode cX5_lays 13 = .ok (.getfield 64, 3) := by decide +kernel
theorem dX5_lays_16 : decode cX5_lays 16 = .ok (.putfield 97, 3) := by decide +kernel
theorem dX5_lays_19 : decode cX5_lays 19 = .ok (.iconst 0, 1) := by decide +kernel
theorem dX5_lays_20 : decode cX5_lays 20 = .ok (.istore_n 3, 1) := by decide +kernel
theorem dX5_lays_21 : decode cX5_lays 21 = .ok (.iload_n 3, 1) := by decide +kernel
theorem dX5_lays_22 : decode cX5_lays 22 = .ok (.aload_n 0, 1) := by decide +kernel
theorem dX5_lays_23 : decode cX5_lays 23 = .ok (.getfield 97, 3) := by decide +kernel
theorem dX5_lays_26 : decode cX5_lays 26 = .ok (.if_icmp .ge 51, 3) := by decide +kernel
theorem dX5_lays_29 : decode cX5_lays 29 = .ok (.aload_n 0, 1) := by decide +kernel
theorem dX5_lays_30 : decode cX5_lays 30 = .ok (.getfield 33, 3) := by decide +kernel
theorem dX5_lays_33 : decode cX5_lays 33 = .ok (.iload_n 3, 1) := by decide +kernel
theorem dX5_lays_34 : decode cX5_lays 34 = .ok (.iload_n 1, 1) := by decide +kernel
theorem dX5_lays_35 : decode cX5_lays 35 = .ok (.ifCond .ne 12, 3) := by decide +kernel
theorem dX5_lays_38 : decode cX5_lays 38 = .ok (.bipush 7, 2) := by decide +kernel
theorem dX5_lays_40 : decode cX5_lays 40 = .ok (.iload_n 3, 1) := by decide +kernel
theorem dX5_lays_41 : decode cX5_lays 41 = .ok (.imul, 1) := by decide +kernel
theorem dX5_lays_42 : decode cX5_lays 42 = .ok (.iload_n 2, 1) := by decide +kernel
theorem dX5_lays_43 : decode cX5_lays 43 = .ok (.iadd, 1) := by decide +kernel
theorem dX5_lays_44 : decode cX5_lays 44 = .ok (.goto 9, 3) := by decide +kernel
theorem dX5_lays_47 : decode cX5_lays 47 = .ok (.bipush 7, 2) := by decide +kernel
theorem dX5_lays_49 : decode cX5_lays 49 = .ok (.iload_n 2, 1) := by decide +kernel
theorem dX5_lays_50 : decode cX5_lays 50 = .ok (.imul, 1) := by decide +kernel
theorem dX5_lays_51 : decode cX5_lays 51 = .ok (.iload_n 3, 1) := by decide +kernel
theorem dX5_lays_52 : decode cX5_lays 52 = .ok (.iadd, 1) := by decide +kernel
theorem dX5_lays_53 : decode cX5_lays 53 = .ok (.iastore, 1) := by decide +kernel
theorem dX5_lays_54 : decode cX5_lays 54 = .ok (.aload_n 0, 1) := by decide +kernel
theorem dX5_lays_55 : decode cX5_lays 55 = .ok (.getfield 36, 3) := by decide +kernel
theorem dX5_lays_58 : decode cX5_lays 58 = .ok (.iload_n 3, 1) := by decide +kernel
theorem dX5_lays_59 : decode cX5_lays 59 = .ok (.aload_n 0, 1) := by decide +kernel
theorem dX5_lays_60 : decode cX5_lays 60 = .ok (.getfield 22, 3) := by decide +kernel
theorem dX5_lays_63 : decode cX5_lays 63 = .ok (.aload_n 0, 1) := by decide +kernel
theorem dX5_lays_64 : decode cX5_lays 64 = .ok (.getfield 33, 3) := by decide +kernel
theorem dX5_lays_67 : decode cX5_lays 67 = .ok (.iload_n 3, 1) := by decide +kernel
theorem dX5_lays_68 : decode cX5_lays 68 = .ok (.iaload, 1) := by decide +kernel
theorem dX5_lays_69 : decode cX5_lays 69 = .ok (.iaload, 1) := by decide +kernel
theorem dX5_lays_70 : decode cX5_lays 70 = .ok (.iastore, 1) := by decide +kernel
theorem dX5_lays_71 : decode cX5_lays 71 = .ok (.iinc 3 1, 3) := by decide +kernel
theorem dX5_lays_74 : decode cX5_lays 74 = .ok (.goto (-53), 3) := by decide +kernel
theorem dX5_lays_77 : decode cX5_lays 77 = .ok (.return_, 1) := by decide +kernel
theorem dX5_bendAt_0 : decode cX5_bendAt 0 = .ok (.aload_n 0, 1) := by decide +kernel
theorem dX5_bendAt_1 : decode cX5_bendAt 1 = .ok (.getfield 36, 3) := by decide +kernel
theorem dX5_bendAt_4 : decode cX5_bendAt 4 = .ok (.iload_n 1, 1) := by decide +kernel
theorem dX5_bendAt_5 : decode cX5_bendAt 5 = .ok (.iconst 1, 1) := by decide +kernel
theorem dX5_bendAt_6 : decode cX5_bendAt 6 = .ok (.isub, 1) := by decide +kernel
theorem dX5_bendAt_7 : decode cX5_bendAt 7 = .ok (.iaload, 1) := by decide +kernel
theorem dX5_bendAt_8 : decode cX5_bendAt 8 = .ok (.aload_n 0, 1) := by decide +kernel
theorem dX5_bendAt_9 : decode cX5_bendAt 9 = .ok (.getfield 36, 3) := by decide +kernel
theorem dX5_bendAt_12 : decode cX5_bendAt 12 = .ok (.iload_n 1, 1) := by decide +kernel
theorem dX5_bendAt_13 : decode cX5_bendAt 13 = .ok (.iconst 1, 1) := by decide +kernel
theorem dX5_bendAt_14 : decode cX5_bendAt 14 = .ok (.iadd, 1) := by decide +kernel
theorem dX5_bendAt_15 : decode cX5_bendAt 15 = .ok (.iaload, 1) := by decide +kernel
theorem dX5_bendAt_16 : decode cX5_bendAt 16 = .ok (.iadd, 1) := by decide +kernel
theorem dX5_bendAt_17 : decode cX5_bendAt 17 = .ok (.iconst 2, 1) := by decide +kernel
theorem dX5_bendAt_18 : decode cX5_bendAt 18 = .ok (.aload_n 0, 1) := by decide +kernel
theorem dX5_bendAt_19 : decode cX5_bendAt 19 = .ok (.getfield 36, 3) := by decide +kernel
theorem dX5_bendAt_22 : decode cX5_bendAt 22 = .ok (.iload_n 1, 1) := by decide +kernel
theorem dX5_bendAt_23 : decode cX5_bendAt 23 = .ok (.iaload, 1) := by decide +kernel
theorem dX5_bendAt_24 : decode cX5_bendAt 24 = .ok (.imul, 1) := by decide +kernel
theorem dX5_bendAt_25 : decode cX5_bendAt 25 = .ok (.isub, 1) := by decide +kernel
theorem dX5_bendAt_26 : decode cX5_bendAt 26 = .ok (.ireturn, 1) := by decide +kernel
theorem dX5_jumpAt_0 : decode cX5_jumpAt 0 = .ok (.aload_n 0, 1) := by decide +kernel
theorem dX5_jumpAt_1 : decode cX5_jumpAt 1 = .ok (.iload_n 1, 1) := by decide +kernel
theorem dX5_jumpAt_2 : decode cX5_jumpAt 2 = .ok (.iconst 1, 1) := by decide +kernel
theorem dX5_jumpAt_3 : decode cX5_jumpAt 3 = .ok (.iadd, 1) := by decide +kernel
theorem dX5_jumpAt_4 : decode cX5_jumpAt 4 = .ok (.invokevirtual 100, 3) := by decide +kernel
theorem dX5_jumpAt_7 : decode cX5_jumpAt 7 = .ok (.aload_n 0, 1) := by decide +kernel
theorem dX5_jumpAt_8 : decode cX5_jumpAt 8 = .ok (.iload_n 1, 1) := by decide +kernel
theorem dX5_jumpAt_9 : decode cX5_jumpAt 9 = .ok (.invokevirtual 100, 3) := by decide +kernel
theorem dX5_jumpAt_12 : decode cX5_jumpAt 12 = .ok (.isub, 1) := by decide +kernel
theorem dX5_jumpAt_13 : decode cX5_jumpAt 13 = .ok (.ireturn, 1) := by decide +kernel
theorem dX5_barred_0 : decode cX5_barred 0 = .ok (.iload_n 1, 1) := by decide +kernel
theorem dX5_barred_1 : decode cX5_barred 1 = .ok (.invokestatic 103, 3) := by decide +kernel
theorem dX5_barred_4 : decode cX5_barred 4 = .ok (.ifCond .ne 6, 3) := by decide +kernel
theorem dX5_barred_7 : decode cX5_barred 7 = .ok (.bipush (-2), 2) := by decide +kernel
theorem dX5_barred_9 : decode cX5_barred 9 = .ok (.ireturn, 1) := by decide +kernel
theorem dX5_barred_10 : decode cX5_barred 10 = .ok (.aload_n 0, 1) := by decide +kernel
theorem dX5_barred_11 : decode cX5_barred 11 = .ok (.iload_n 1, 1) := by decide +kernel
theorem dX5_barred_12 : decode cX5_barred 12 = .ok (.iload_n 2, 1) := by decide +kernel
theorem dX5_barred_13 : decode cX5_barred 13 = .ok (.invokevirtual 106, 3) := by decide +kernel
theorem dX5_barred_16 : decode cX5_barred 16 = .ok (.ifCond .ne 5, 3) := by decide +kernel
theorem dX5_barred_19 : decode cX5_barred 19 = .ok (.iconst (-1), 1) := by decide +kernel
theorem dX5_barred_20 : decode cX5_barred 20 = .ok (.ireturn, 1) := by decide +kernel
theorem dX5_barred_21 : decode cX5_barred 21 = .ok (.aload_n 0, 1) := by decide +kernel
theorem dX5_barred_22 : decode cX5_barred 22 = .ok (.iload_n 1, 1) := by decide +kernel
theorem dX5_barred_23 : decode cX5_barred 23 = .ok (.iload_n 2, 1) := by decide +kernel
theorem dX5_barred_24 : decode cX5_barred 24 = .ok (.invokevirtual 109, 3) := by decide +kernel
theorem dX5_barred_27 : decode cX5_barred 27 = .ok (.iload_n 3, 1) := by decide +kernel
theorem dX5_barred_28 : decode cX5_barred 28 = .ok (.i2l, 1) := by decide +kernel
theorem dX5_barred_29 : decode cX5_barred 29 = .ok (.lconst 1, 1) := by decide +kernel
theorem dX5_barred_30 : decode cX5_barred 30 = .ok (.aload_n 0, 1) := by decide +kernel
theorem dX5_barred_31 : decode cX5_barred 31 = .ok (.getfield 97, 3) := by decide +kernel
theorem dX5_barred_34 : decode cX5_barred 34 = .ok (.iload 4, 2) := by decide +kernel
theorem dX5_barred_36 : decode cX5_barred 36 = .ok (.isub, 1) := by decide +kernel
theorem dX5_barred_37 : decode cX5_barred 37 = .ok (.i2l, 1) := by decide +kernel
theorem dX5_barred_38 : decode cX5_barred 38 = .ok (.invokestatic 67, 3) := by decide +kernel
theorem dX5_barred_41 : decode cX5_barred 41 = .ok (.ifCond .eq 7, 3) := by decide +kernel
theorem dX5_barred_44 : decode cX5_barred 44 = .ok (.iconst 0, 1) := by decide +kernel
theorem dX5_barred_45 : decode cX5_barred 45 = .ok (.goto 5, 3) := by decide +kernel
theorem dX5_barred_48 : decode cX5_barred 48 = .ok (.bipush (-2), 2) := by decide +kernel
theorem dX5_barred_50 : decode cX5_barred 50 = .ok (.ireturn, 1) := by decide +kernel
theorem dX5_bend_0 : decode cX5_bend 0 = .ok (.aload_n 0, 1) := by decide +kernel
theorem dX5_bend_1 : decode cX5_bend 1 = .ok (.iload_n 1, 1) := by decide +kernel
theorem dX5_bend_2 : decode cX5_bend 2 = .ok (.iload_n 2, 1) := by decide +kernel
theorem dX5_bend_3 : decode cX5_bend 3 = .ok (.iload_n 3, 1) := by decide +kernel
theorem dX5_bend_4 : decode cX5_bend 4 = .ok (.iconst 2, 1) := by decide +kernel
theorem dX5_bend_5 : decode cX5_bend 5 = .ok (.invokevirtual 113, 3) := by decide +kernel
theorem dX5_bend_8 : decode cX5_bend 8 = .ok (.istore 4, 2) := by decide +kernel
theorem dX5_bend_10 : decode cX5_bend 10 = .ok (.iload 4, 2) := by decide +kernel
theorem dX5_bend_12 : decode cX5_bend 12 = .ok (.ifCond .ge 8, 3) := by decide +kernel
theorem dX5_bend_15 : decode cX5_bend 15 = .ok (.iload 4, 2) := by decide +kernel
theorem dX5_bend_17 : decode cX5_bend 17 = .ok (.goto 8, 3) := by decide +kernel
theorem dX5_bend_20 : decode cX5_bend 20 = .ok (.aload_n 0, 1) := by decide +kernel
theorem dX5_bend_21 : decode cX5_bend 21 = .ok (.iload_n 3, 1) := by decide +kernel
theorem dX5_bend_22 : decode cX5_bend 22 = .ok (.invokevirtual 100, 3) := by decide +kernel
theorem dX5_bend_25 : decode cX5_bend 25 = .ok (.ireturn, 1) := by decide +kernel
theorem dX5_jump_0 : decode cX5_jump 0 = .ok (.aload_n 0, 1) := by decide +kernel
theorem dX5_jump_1 : decode cX5_jump 1 = .ok (.iload_n 1, 1) := by decide +kernel
theorem dX5_jump_2 : decode cX5_jump 2 = .ok (.iload_n 2, 1) := by decide +kernel
theorem dX5_jump_3 : decode cX5_jump 3 = .ok (.iload_n 3, 1) := by decide +kernel
theorem dX5_jump_4 : decode cX5_jump 4 = .ok (.iconst 3, 1) := by decide +kernel
theorem dX5_jump_5 : decode cX5_jump 5 = .ok (.invokevirtual 113, 3) := by decide +kernel
theorem dX5_jump_8 : decode cX5_jump 8 = .ok (.istore 4, 2) := by decide +kernel
theorem dX5_jump_10 : decode cX5_jump 10 = .ok (.iload 4, 2) := by decide +kernel
theorem dX5_jump_12 : decode cX5_jump 12 = .ok (.ifCond .ge 8, 3) := by decide +kernel
theorem dX5_jump_15 : decode cX5_jump 15 = .ok (.iload 4, 2) := by decide +kernel
theorem dX5_jump_17 : decode cX5_jump 17 = .ok (.goto 8, 3) := by decide +kernel
theorem dX5_jump_20 : decode cX5_jump 20 = .ok (.aload_n 0, 1) := by decide +kernel
theorem dX5_jump_21 : decode cX5_jump 21 = .ok (.iload_n 3, 1) := by decide +kernel
theorem dX5_jump_22 : decode cX5_jump 22 = .ok (.invokevirtual 117, 3) := by decide +kernel
theorem dX5_jump_25 : decode cX5_jump 25 = .ok (.ireturn, 1) := by decide +kernel
theorem dX5_roughest_0 : decode cX5_roughest 0 = .ok (.iload_n 1, 1) := by decide +kernel
theorem dX5_roughest_1 : decode cX5_roughest 1 = .ok (.i2l, 1) := by decide +kernel
theorem dX5_roughest_2 : decode cX5_roughest 2 = .ok (.lconst 0, 1) := by decide +kernel
theorem dX5_roughest_3 : decode cX5_roughest 3 = .ok (.ldc2_w 89, 3) := by decide +kernel
theorem dX5_roughest_6 : decode cX5_roughest 6 = .ok (.invokestatic 67, 3) := by decide +kernel
theorem dX5_roughest_9 : decode cX5_roughest 9 = .ok (.ifCond .ne 6, 3) := by decide +kernel
theorem dX5_roughest_12 : decode cX5_roughest 12 = .ok (.bipush (-2), 2) := by decide +kernel
theorem dX5_roughest_14 : decode cX5_roughest 14 = .ok (.ireturn, 1) := by decide +kernel
theorem dX5_roughest_15 : decode cX5_roughest 15 = .ok (.iconst (-1), 1) := by decide +kernel
theorem dX5_roughest_16 : decode cX5_roughest 16 = .ok (.istore_n 2, 1) := by decide +kernel
theorem dX5_roughest_17 : decode cX5_roughest 17 = .ok (.iconst 0, 1) := by decide +kernel
theorem dX5_roughest_18 : decode cX5_roughest 18 = .ok (.istore_n 3, 1) := by decide +kernel
theorem dX5_roughest_19 : decode cX5_roughest 19 = .ok (.iconst 0, 1) := by decide +kernel
theorem dX5_roughest_20 : decode cX5_roughest 20 = .ok (.istore 4, 2) := by decide +kernel
theorem dX5_roughest_22 : decode cX5_roughest 22 = .ok (.iload 4, 2) := by decide +kernel
theorem dX5_roughest_24 : decode cX5_roughest 24 = .ok (.iconst 2, 1) := by decide +kernel
theorem dX5_roughest_25 : decode cX5_roughest 25 = .ok (.if_icmp .ge 120, 3) := by decide +kernel
theorem dX5_roughest_28 : decode cX5_roughest 28 = .ok (.iconst 0, 1) := by decide +kernel
theorem dX5_roughest_29 : decode cX5_roughest 29 = .ok (.istore 5, 2) := by decide +kernel
theorem dX5_roughest_31 : decode cX5_roughest 31 = .ok (.iload 5, 2) := by decide +kernel
theorem dX5_roughest_33 : decode cX5_roughest 33 = .ok (.aload_n 0, 1) := by decide +kernel
theorem dX5_roughest_34 : decode cX5_roughest 34 = .ok (.iload 4, 2) := by decide +kernel
theorem dX5_roughest_36 : decode cX5_roughest 36 = .ok (.invokevirtual 93, 3) := by decide +kernel
theorem dX5_roughest_39 : decode cX5_roughest 39 = .ok (.if_icmp .ge 100, 3) := by decide +kernel
theorem dX5_roughest_42 : decode cX5_roughest 42 = .ok (.aload_n 0, 1) := by decide +kernel
theorem dX5_roughest_43 : decode cX5_roughest 43 = .ok (.iload 4, 2) := by decide +kernel
theorem dX5_roughest_45 : decode cX5_roughest 45 = .ok (.iload 5, 2) := by decide +kernel
theorem dX5_roughest_47 : decode cX5_roughest 47 = .ok (.invokevirtual 109, 3) := by decide +kernel
theorem dX5_roughest_50 : decode cX5_roughest 50 = .ok (.iconst 1, 1) := by decide +kernel
theorem dX5_roughest_51 : decode cX5_roughest 51 = .ok (.istore 6, 2) := by decide +kernel
theorem dX5_roughest_53 : decode cX5_roughest 53 = .ok (.iload 6, 2) := by decide +kernel
theorem dX5_roughest_55 : decode cX5_roughest 55 = .ok (.aload_n 0, 1) := by decide +kernel
theorem dX5_roughest_56 : decode cX5_roughest 56 = .ok (.getfield 97, 3) := by decide +kernel
theorem dX5_roughest_59 : decode cX5_roughest 59 = .ok (.iconst 2, 1) := by decide +kernel
theorem dX5_roughest_60 : decode cX5_roughest 60 = .ok (.isub, 1) := by decide +kernel
theorem dX5_roughest_61 : decode cX5_roughest 61 = .ok (.if_icmp .ge 72, 3) := by decide +kernel
theorem dX5_roughest_64 : decode cX5_roughest 64 = .ok (.aload_n 0, 1) := by decide +kernel
theorem dX5_roughest_65 : decode cX5_roughest 65 = .ok (.iload 6, 2) := by decide +kernel
theorem dX5_roughest_67 : decode cX5_roughest 67 = .ok (.invokevirtual 117, 3) := by decide +kernel
theorem dX5_roughest_70 : decode cX5_roughest 70 = .ok (.invokestatic 120, 3) := by decide +kernel
theorem dX5_roughest_73 : decode cX5_roughest 73 = .ok (.iload_n 2, 1) := by decide +kernel
theorem dX5_roughest_74 : decode cX5_roughest 74 = .ok (.if_icmp .le 7, 3) := by decide +kernel
theorem dX5_roughest_77 : decode cX5_roughest 77 = .ok (.iconst 1, 1) := by decide +kernel
theorem dX5_roughest_78 : decode cX5_roughest 78 = .ok (.goto 4, 3) := by decide +kernel
theorem dX5_roughest_81 : decode cX5_roughest 81 = .ok (.iconst 0, 1) := by decide +kernel
theorem dX5_roughest_82 : decode cX5_roughest 82 = .ok (.istore 7, 2) := by decide +kernel
theorem dX5_roughest_84 : decode cX5_roughest 84 = .ok (.iload 7, 2) := by decide +kernel
theorem dX5_roughest_86 : decode cX5_roughest 86 = .ok (.ifCond .eq 15, 3) := by decide +kernel
theorem dX5_roughest_89 : decode cX5_roughest 89 = .ok (.aload_n 0, 1) := by decide +kernel
theorem dX5_roughest_90 : decode cX5_roughest 90 = .ok (.iload 6, 2) := by decide +kernel
theorem dX5_roughest_92 : decode cX5_roughest 92 = .ok (.invokevirtual 117, 3) := by decide +kernel
theorem dX5_roughest_95 : decode cX5_roughest 95 = .ok (.invokestatic 120, 3) := by decide +kernel
theorem dX5_roughest_98 : decode cX5_roughest 98 = .ok (.goto 4, 3) := by decide +kernel
theorem dX5_roughest_101 : decode cX5_roughest 101 = .ok (.iload_n 2, 1) := by decide +kernel
theorem dX5_roughest_102 : decode cX5_roughest 102 = .ok (.istore_n 2, 1) := by decide +kernel
theorem dX5_roughest_103 : decode cX5_roughest 103 = .ok (.iload 7, 2) := by decide +kernel
theorem dX5_roughest_105 : decode cX5_roughest 105 = .ok (.ifCond .eq 20, 3) := by decide +kernel
theorem dX5_roughest_108 : decode cX5_roughest 108 = .ok (.bipush 100, 2) := by decide +kernel
theorem dX5_roughest_110 : decode cX5_roughest 110 = .ok (.iload 4, 2) := by decide +kernel
theorem dX5_roughest_112 : decode cX5_roughest 112 = .ok (.imul, 1) := by decide +kernel
theorem dX5_roughest_113 : decode cX5_roughest 113 = .ok (.bipush 10, 2) := by decide +kernel
theorem dX5_roughest_115 : decode cX5_roughest 115 = .ok (.iload 5, 2) := by decide +kernel
theorem dX5_roughest_117 : decode cX5_roughest 117 = .ok (.imul, 1) := by decide +kernel
theorem dX5_roughest_118 : decode cX5_roughest 118 = .ok (.iadd, 1) := by decide +kernel
theorem dX5_roughest_119 : decode cX5_roughest 119 = .ok (.iload 6, 2) := by decide +kernel
theorem dX5_roughest_121 : decode cX5_roughest 121 = .ok (.iadd, 1) := by decide +kernel
theorem dX5_roughest_122 : decode cX5_roughest 122 = .ok (.goto 4, 3) := by decide +kernel
theorem dX5_roughest_125 : decode cX5_roughest 125 = .ok (.iload_n 3, 1) := by decide +kernel
theorem dX5_roughest_126 : decode cX5_roughest 126 = .ok (.istore_n 3, 1) := by decide +kernel
theorem dX5_roughest_127 : decode cX5_roughest 127 = .ok (.iinc 6 1, 3) := by decide +kernel
theorem dX5_roughest_130 : decode cX5_roughest 130 = .ok (.goto (-77), 3) := by decide +kernel
theorem dX5_roughest_133 : decode cX5_roughest 133 = .ok (.iinc 5 1, 3) := by decide +kernel
theorem dX5_roughest_136 : decode cX5_roughest 136 = .ok (.goto (-105), 3) := by decide +kernel
theorem dX5_roughest_139 : decode cX5_roughest 139 = .ok (.iinc 4 1, 3) := by decide +kernel
theorem dX5_roughest_142 : decode cX5_roughest 142 = .ok (.goto (-120), 3) := by decide +kernel
theorem dX5_roughest_145 : decode cX5_roughest 145 = .ok (.iload_n 1, 1) := by decide +kernel
theorem dX5_roughest_146 : decode cX5_roughest 146 = .ok (.ifCond .ne 7, 3) := by decide +kernel
theorem dX5_roughest_149 : decode cX5_roughest 149 = .ok (.iload_n 2, 1) := by decide +kernel
theorem dX5_roughest_150 : decode cX5_roughest 150 = .ok (.goto 34, 3) := by decide +kernel
theorem dX5_roughest_153 : decode cX5_roughest 153 = .ok (.iload_n 1, 1) := by decide +kernel
theorem dX5_roughest_154 : decode cX5_roughest 154 = .ok (.iconst 1, 1) := by decide +kernel
theorem dX5_roughest_155 : decode cX5_roughest 155 = .ok (.if_icmp .ne 10, 3) := by decide +kernel
theorem dX5_roughest_158 : decode cX5_roughest 158 = .ok (.iload_n 3, 1) := by decide +kernel
theorem dX5_roughest_159 : decode cX5_roughest 159 = .ok (.bipush 100, 2) := by decide +kernel
theorem dX5_roughest_161 : decode cX5_roughest 161 = .ok (.idiv, 1) := by decide +kernel
theorem dX5_roughest_162 : decode cX5_roughest 162 = .ok (.goto 22, 3) := by decide +kernel
theorem dX5_roughest_165 : decode cX5_roughest 165 = .ok (.iload_n 1, 1) := by decide +kernel
theorem dX5_roughest_166 : decode cX5_roughest 166 = .ok (.iconst 2, 1) := by decide +kernel
theorem dX5_roughest_167 : decode cX5_roughest 167 = .ok (.if_icmp .ne 13, 3) := by decide +kernel
theorem dX5_roughest_170 : decode cX5_roughest 170 = .ok (.iload_n 3, 1) := by decide +kernel
theorem dX5_roughest_171 : decode cX5_roughest 171 = .ok (.bipush 10, 2) := by decide +kernel
theorem dX5_roughest_173 : decode cX5_roughest 173 = .ok (.idiv, 1) := by decide +kernel
theorem dX5_roughest_174 : decode cX5_roughest 174 = .ok (.bipush 10, 2) := by decide +kernel
theorem dX5_roughest_176 : decode cX5_roughest 176 = .ok (.irem, 1) := by decide +kernel
theorem dX5_roughest_177 : decode cX5_roughest 177 = .ok (.goto 7, 3) := by decide +kernel
theorem dX5_roughest_180 : decode cX5_roughest 180 = .ok (.iload_n 3, 1) := by decide +kernel
theorem dX5_roughest_181 : decode cX5_roughest 181 = .ok (.bipush 10, 2) := by decide +kernel
theorem dX5_roughest_183 : decode cX5_roughest 183 = .ok (.irem, 1) := by decide +kernel
theorem dX5_roughest_184 : decode cX5_roughest 184 = .ok (.ireturn, 1) := by decide +kernel
theorem dX5_roughNow_0 : decode cX5_roughNow 0 = .ok (.iconst 0, 1) := by decide +kernel
theorem dX5_roughNow_1 : decode cX5_roughNow 1 = .ok (.istore_n 1, 1) := by decide +kernel
theorem dX5_roughNow_2 : decode cX5_roughNow 2 = .ok (.iconst 1, 1) := by decide +kernel
theorem dX5_roughNow_3 : decode cX5_roughNow 3 = .ok (.istore_n 2, 1) := by decide +kernel
theorem dX5_roughNow_4 : decode cX5_roughNow 4 = .ok (.iload_n 2, 1) := by decide +kernel
theorem dX5_roughNow_5 : decode cX5_roughNow 5 = .ok (.aload_n 0, 1) := by decide +kernel
theorem dX5_roughNow_6 : decode cX5_roughNow 6 = .ok (.getfield 97, 3) := by decide +kernel
theorem dX5_roughNow_9 : decode cX5_roughNow 9 = .ok (.iconst 2, 1) := by decide +kernel
theorem dX5_roughNow_10 : decode cX5_roughNow 10 = .ok (.isub, 1) := by decide +kernel
theorem dX5_roughNow_11 : decode cX5_roughNow 11 = .ok (.if_icmp .ge 32, 3) := by decide +kernel
theorem dX5_roughNow_14 : decode cX5_roughNow 14 = .ok (.iload_n 1, 1) := by decide +kernel
theorem dX5_roughNow_15 : decode cX5_roughNow 15 = .ok (.aload_n 0, 1) := by decide +kernel
theorem dX5_roughNow_16 : decode cX5_roughNow 16 = .ok (.iload_n 2, 1) := by decide +kernel
theorem dX5_roughNow_17 : decode cX5_roughNow 17 = .ok (.invokevirtual 117, 3) := by decide +kernel
theorem dX5_roughNow_20 : decode cX5_roughNow 20 = .ok (.invokestatic 120, 3) := by decide +kernel
theorem dX5_roughNow_23 : decode cX5_roughNow 23 = .ok (.aload_n 0, 1) := by decide +kernel
theorem dX5_roughNow_24 : decode cX5_roughNow 24 = .ok (.getfield 7, 3) := by decide +kernel
theorem dX5_roughNow_27 : decode cX5_roughNow 27 = .ok (.if_icmp .le 7, 3) := by decide +kernel
theorem dX5_roughNow_30 : decode cX5_roughNow 30 = .ok (.iconst 1, 1) := by decide +kernel
theorem dX5_roughNow_31 : decode cX5_roughNow 31 = .ok (.goto 4, 3) := by decide +kernel
theorem dX5_roughNow_34 : decode cX5_roughNow 34 = .ok (.iconst 0, 1) := by decide +kernel
theorem dX5_roughNow_35 : decode cX5_roughNow 35 = .ok (.iadd, 1) := by decide +kernel
theorem dX5_roughNow_36 : decode cX5_roughNow 36 = .ok (.istore_n 1, 1) := by decide +kernel
theorem dX5_roughNow_37 : decode cX5_roughNow 37 = .ok (.iinc 2 1, 3) := by decide +kernel
theorem dX5_roughNow_40 : decode cX5_roughNow 40 = .ok (.goto (-36), 3) := by decide +kernel
theorem dX5_roughNow_43 : decode cX5_roughNow 43 = .ok (.iload_n 1, 1) := by decide +kernel
theorem dX5_roughNow_44 : decode cX5_roughNow 44 = .ok (.ireturn, 1) := by decide +kernel
theorem dX5_rough_0 : decode cX5_rough 0 = .ok (.iload_n 1, 1) := by decide +kernel
theorem dX5_rough_1 : decode cX5_rough 1 = .ok (.invokestatic 103, 3) := by decide +kernel
theorem dX5_rough_4 : decode cX5_rough 4 = .ok (.ifCond .ne 6, 3) := by decide +kernel
theorem dX5_rough_7 : decode cX5_rough 7 = .ok (.bipush (-2), 2) := by decide +kernel
theorem dX5_rough_9 : decode cX5_rough 9 = .ok (.ireturn, 1) := by decide +kernel
theorem dX5_rough_10 : decode cX5_rough 10 = .ok (.aload_n 0, 1) := by decide +kernel
theorem dX5_rough_11 : decode cX5_rough 11 = .ok (.iload_n 1, 1) := by decide +kernel
theorem dX5_rough_12 : decode cX5_rough 12 = .ok (.iload_n 2, 1) := by decide +kernel
theorem dX5_rough_13 : decode cX5_rough 13 = .ok (.invokevirtual 106, 3) := by decide +kernel
theorem dX5_rough_16 : decode cX5_rough 16 = .ok (.ifCond .ne 5, 3) := by decide +kernel
theorem dX5_rough_19 : decode cX5_rough 19 = .ok (.iconst (-1), 1) := by decide +kernel
theorem dX5_rough_20 : decode cX5_rough 20 = .ok (.ireturn, 1) := by decide +kernel
theorem dX5_rough_21 : decode cX5_rough 21 = .ok (.aload_n 0, 1) := by decide +kernel
theorem dX5_rough_22 : decode cX5_rough 22 = .ok (.iload_n 1, 1) := by decide +kernel
theorem dX5_rough_23 : decode cX5_rough 23 = .ok (.iload_n 2, 1) := by decide +kernel
theorem dX5_rough_24 : decode cX5_rough 24 = .ok (.invokevirtual 109, 3) := by decide +kernel
theorem dX5_rough_27 : decode cX5_rough 27 = .ok (.aload_n 0, 1) := by decide +kernel
theorem dX5_rough_28 : decode cX5_rough 28 = .ok (.invokevirtual 123, 3) := by decide +kernel
theorem dX5_rough_31 : decode cX5_rough 31 = .ok (.ireturn, 1) := by decide +kernel
theorem dX5_may_0 : decode cX5_may 0 = .ok (.iload_n 2, 1) := by decide +kernel
theorem dX5_may_1 : decode cX5_may 1 = .ok (.i2l, 1) := by decide +kernel
theorem dX5_may_2 : decode cX5_may 2 = .ok (.aload_n 0, 1) := by decide +kernel
theorem dX5_may_3 : decode cX5_may 3 = .ok (.getfield 13, 3) := by decide +kernel
theorem dX5_may_6 : decode cX5_may 6 = .ok (.ineg, 1) := by decide +kernel
theorem dX5_may_7 : decode cX5_may 7 = .ok (.i2l, 1) := by decide +kernel
theorem dX5_may_8 : decode cX5_may 8 = .ok (.aload_n 0, 1) := by decide +kernel
theorem dX5_may_9 : decode cX5_may 9 = .ok (.getfield 13, 3) := by decide +kernel
theorem dX5_may_12 : decode cX5_may 12 = .ok (.i2l, 1) := by decide +kernel
theorem dX5_may_13 : decode cX5_may 13 = .ok (.invokestatic 67, 3) := by decide +kernel
theorem dX5_may_16 : decode cX5_may 16 = .ok (.ifCond .eq 39, 3) := by decide +kernel
theorem dX5_may_19 : decode cX5_may 19 = .ok (.iload_n 2, 1) := by decide +kernel
theorem dX5_may_20 : decode cX5_may 20 = .ok (.ifCond .eq 17, 3) := by decide +kernel
theorem dX5_may_23 : decode cX5_may 23 = .ok (.aload_n 0, 1) := by decide +kernel
theorem dX5_may_24 : decode cX5_may 24 = .ok (.getfield 29, 3) := by decide +kernel
theorem dX5_may_27 : decode cX5_may 27 = .ok (.aload_n 0, 1) := by decide +kernel
theorem dX5_may_28 : decode cX5_may 28 = .ok (.getfield 33, 3) := by decide +kernel
theorem dX5_may_31 : decode cX5_may 31 = .ok (.iload_n 1, 1) := by decide +kernel
theorem dX5_may_32 : decode cX5_may 32 = .ok (.iaload, 1) := by decide +kernel
theorem dX5_may_33 : decode cX5_may 33 = .ok (.baload, 1) := by decide +kernel
theorem dX5_may_34 : decode cX5_may 34 = .ok (.ifCond .ne 21, 3) := by decide +kernel
theorem dX5_may_37 : decode cX5_may 37 = .ok (.aload_n 0, 1) := by decide +kernel
theorem dX5_may_38 : decode cX5_may 38 = .ok (.getfield 36, 3) := by decide +kernel
theorem dX5_may_41 : decode cX5_may 41 = .ok (.iload_n 1, 1) := by decide +kernel
theorem dX5_may_42 : decode cX5_may 42 = .ok (.iaload, 1) := by decide +kernel
theorem dX5_may_43 : decode cX5_may 43 = .ok (.iload_n 2, 1) := by decide +kernel
theorem dX5_may_44 : decode cX5_may 44 = .ok (.iadd, 1) := by decide +kernel
theorem dX5_may_45 : decode cX5_may 45 = .ok (.invokestatic 85, 3) := by decide +kernel
theorem dX5_may_48 : decode cX5_may 48 = .ok (.ifCond .eq 7, 3) := by decide +kernel
theorem dX5_may_51 : decode cX5_may 51 = .ok (.iconst 1, 1) := by decide +kernel
theorem dX5_may_52 : decode cX5_may 52 = .ok (.goto 4, 3) := by decide +kernel
theorem dX5_may_55 : decode cX5_may 55 = .ok (.iconst 0, 1) := by decide +kernel
theorem dX5_may_56 : decode cX5_may 56 = .ok (.ireturn, 1) := by decide +kernel
theorem dX5_triple_0 : decode cX5_triple 0 = .ok (.bipush 49, 2) := by decide +kernel
theorem dX5_triple_2 : decode cX5_triple 2 = .ok (.iload_n 0, 1) := by decide +kernel
theorem dX5_triple_3 : decode cX5_triple 3 = .ok (.iconst 3, 1) := by decide +kernel
theorem dX5_triple_4 : decode cX5_triple 4 = .ok (.iadd, 1) := by decide +kernel
theorem dX5_triple_5 : decode cX5_triple 5 = .ok (.imul, 1) := by decide +kernel
theorem dX5_triple_6 : decode cX5_triple 6 = .ok (.bipush 7, 2) := by decide +kernel
theorem dX5_triple_8 : decode cX5_triple 8 = .ok (.iload_n 1, 1) := by decide +kernel
theorem dX5_triple_9 : decode cX5_triple 9 = .ok (.iconst 3, 1) := by decide +kernel
theorem dX5_triple_10 : decode cX5_triple 10 = .ok (.iadd, 1) := by decide +kernel
theorem dX5_triple_11 : decode cX5_triple 11 = .ok (.imul, 1) := by decide +kernel
theorem dX5_triple_12 : decode cX5_triple 12 = .ok (.iadd, 1) := by decide +kernel
