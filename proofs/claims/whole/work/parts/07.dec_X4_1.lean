theorem dX4_isNot_2 : decode cX4_isNot 2 = .ok (.if_icmp .lt 8, 3) := by decide +kernel
theorem dX4_isNot_5 : decode cX4_isNot 5 = .ok (.iload_n 0, 1) := by decide +kernel
theorem dX4_isNot_6 : decode cX4_isNot 6 = .ok (.iload_n 2, 1) := by decide +kernel
theorem dX4_isNot_7 : decode cX4_isNot 7 = .ok (.if_icmp .le 7, 3) := by decide +kernel
theorem dX4_isNot_10 : decode cX4_isNot 10 = .ok (.iconst 1, 1) := by decide +kernel
theorem dX4_isNot_11 : decode cX4_isNot 11 = .ok (.goto 4, 3) := by decide +kernel
theorem dX4_isNot_14 : decode cX4_isNot 14 = .ok (.iconst 0, 1) := by decide +kernel
theorem dX4_isNot_15 : decode cX4_isNot 15 = .ok (.ireturn, 1) := by decide +kernel
theorem dX4_cellOf_0 : decode cX4_cellOf 0 = .ok (.iload_n 0, 1) := by decide +kernel
theorem dX4_cellOf_1 : decode cX4_cellOf 1 = .ok (.bipush 7, 2) := by decide +kernel
theorem dX4_cellOf_3 : decode cX4_cellOf 3 = .ok (.imul, 1) := by decide +kernel
theorem dX4_cellOf_4 : decode cX4_cellOf 4 = .ok (.iload_n 1, 1) := by decide +kernel
theorem dX4_cellOf_5 : decode cX4_cellOf 5 = .ok (.iadd, 1) := by decide +kernel
theorem dX4_cellOf_6 : decode cX4_cellOf 6 = .ok (.ireturn, 1) := by decide +kernel
theorem dX4_refusalOfLine_0 : decode cX4_refusalOfLine 0 = .ok (.iload_n 1, 1) := by decide +kernel
theorem dX4_refusalOfLine_1 : decode cX4_refusalOfLine 1 = .ok (.iconst 0, 1) := by decide +kernel
theorem dX4_refusalOfLine_2 : decode cX4_refusalOfLine 2 = .ok (.iconst 1, 1) := by decide +kernel
theorem dX4_refusalOfLine_3 : decode cX4_refusalOfLine 3 = .ok (.invokestatic 61, 3) := by decide +kernel
theorem dX4_refusalOfLine_6 : decode cX4_refusalOfLine 6 = .ok (.ifCond .eq 6, 3) := by decide +kernel
theorem dX4_refusalOfLine_9 : decode cX4_refusalOfLine 9 = .ok (.bipush (-2), 2) := by decide +kernel
theorem dX4_refusalOfLine_11 : decode cX4_refusalOfLine 11 = .ok (.ireturn, 1) := by decide +kernel
theorem dX4_refusalOfLine_12 : decode cX4_refusalOfLine 12 = .ok (.iload_n 2, 1) := by decide +kernel
theorem dX4_refusalOfLine_13 : decode cX4_refusalOfLine 13 = .ok (.iconst 0, 1) := by decide +kernel
theorem dX4_refusalOfLine_14 : decode cX4_refusalOfLine 14 = .ok (.aload_n 0, 1) := by decide +kernel
theorem dX4_refusalOfLine_15 : decode cX4_refusalOfLine 15 = .ok (.getfield 14, 3) := by decide +kernel
theorem dX4_refusalOfLine_18 : decode cX4_refusalOfLine 18 = .ok (.iload_n 1, 1) := by decide +kernel
theorem dX4_refusalOfLine_19 : decode cX4_refusalOfLine 19 = .ok (.invokevirtual 109, 3) := by decide +kernel
theorem dX4_refusalOfLine_22 : decode cX4_refusalOfLine 22 = .ok (.iconst 1, 1) := by decide +kernel
theorem dX4_refusalOfLine_23 : decode cX4_refusalOfLine 23 = .ok (.isub, 1) := by decide +kernel
theorem dX4_refusalOfLine_24 : decode cX4_refusalOfLine 24 = .ok (.invokestatic 61, 3) := by decide +kernel
theorem dX4_refusalOfLine_27 : decode cX4_refusalOfLine 27 = .ok (.ifCond .eq 7, 3) := by decide +kernel
theorem dX4_refusalOfLine_30 : decode cX4_refusalOfLine 30 = .ok (.iconst (-1), 1) := by decide +kernel
theorem dX4_refusalOfLine_31 : decode cX4_refusalOfLine 31 = .ok (.goto 4, 3) := by decide +kernel
theorem dX4_refusalOfLine_34 : decode cX4_refusalOfLine 34 = .ok (.iconst 0, 1) := by decide +kernel
theorem dX4_refusalOfLine_35 : decode cX4_refusalOfLine 35 = .ok (.ireturn, 1) := by decide +kernel
theorem dX4_takeLine_0 : decode cX4_takeLine 0 = .ok (.aload_n 0, 1) := by decide +kernel
theorem dX4_takeLine_1 : decode cX4_takeLine 1 = .ok (.getfield 14, 3) := by decide +kernel
theorem dX4_takeLine_4 : decode cX4_takeLine 4 = .ok (.iload_n 1, 1) := by decide +kernel
theorem dX4_takeLine_5 : decode cX4_takeLine 5 = .ok (.iload_n 2, 1) := by decide +kernel
theorem dX4_takeLine_6 : decode cX4_takeLine 6 = .ok (.aload_n 0, 1) := by decide +kernel
theorem dX4_takeLine_7 : decode cX4_takeLine 7 = .ok (.getfield 21, 3) := by decide +kernel
theorem dX4_takeLine_10 : decode cX4_takeLine 10 = .ok (.invokevirtual 196, 3) := by decide +kernel
theorem dX4_takeLine_13 : decode cX4_takeLine 13 = .ok (.return_, 1) := by decide +kernel
theorem dX4_countUnfair_0 : decode cX4_countUnfair 0 = .ok (.iconst 0, 1) := by decide +kernel
theorem dX4_countUnfair_1 : decode cX4_countUnfair 1 = .ok (.istore_n 1, 1) := by decide +kernel
theorem dX4_countUnfair_2 : decode cX4_countUnfair 2 = .ok (.iconst 0, 1) := by decide +kernel
theorem dX4_countUnfair_3 : decode cX4_countUnfair 3 = .ok (.istore_n 2, 1) := by decide +kernel
theorem dX4_countUnfair_4 : decode cX4_countUnfair 4 = .ok (.iload_n 2, 1) := by decide +kernel
theorem dX4_countUnfair_5 : decode cX4_countUnfair 5 = .ok (.iconst 2, 1) := by decide +kernel
theorem dX4_countUnfair_6 : decode cX4_countUnfair 6 = .ok (.if_icmp .ge 54, 3) := by decide +kernel
theorem dX4_countUnfair_9 : decode cX4_countUnfair 9 = .ok (.iconst 0, 1) := by decide +kernel
theorem dX4_countUnfair_10 : decode cX4_countUnfair 10 = .ok (.istore_n 3, 1) := by decide +kernel
theorem dX4_countUnfair_11 : decode cX4_countUnfair 11 = .ok (.iload_n 3, 1) := by decide +kernel
theorem dX4_countUnfair_12 : decode cX4_countUnfair 12 = .ok (.aload_n 0, 1) := by decide +kernel
theorem dX4_countUnfair_13 : decode cX4_countUnfair 13 = .ok (.getfield 14, 3) := by decide +kernel
theorem dX4_countUnfair_16 : decode cX4_countUnfair 16 = .ok (.iload_n 2, 1) := by decide +kernel
theorem dX4_countUnfair_17 : decode cX4_countUnfair 17 = .ok (.invokevirtual 109, 3) := by decide +kernel
theorem dX4_countUnfair_20 : decode cX4_countUnfair 20 = .ok (.if_icmp .ge 34, 3) := by decide +kernel
theorem dX4_countUnfair_23 : decode cX4_countUnfair 23 = .ok (.aload_n 0, 1) := by decide +kernel
theorem dX4_countUnfair_24 : decode cX4_countUnfair 24 = .ok (.iload_n 2, 1) := by decide +kernel
theorem dX4_countUnfair_25 : decode cX4_countUnfair 25 = .ok (.iload_n 3, 1) := by decide +kernel
theorem dX4_countUnfair_26 : decode cX4_countUnfair 26 = .ok (.invokevirtual 96, 3) := by decide +kernel
theorem dX4_countUnfair_29 : decode cX4_countUnfair 29 = .ok (.aload_n 0, 1) := by decide +kernel
theorem dX4_countUnfair_30 : decode cX4_countUnfair 30 = .ok (.getfield 21, 3) := by decide +kernel
theorem dX4_countUnfair_33 : decode cX4_countUnfair 33 = .ok (.invokevirtual 112, 3) := by decide +kernel
theorem dX4_countUnfair_36 : decode cX4_countUnfair 36 = .ok (.aload_n 0, 1) := by decide +kernel
theorem dX4_countUnfair_37 : decode cX4_countUnfair 37 = .ok (.getfield 48, 3) := by decide +kernel
theorem dX4_countUnfair_40 : decode cX4_countUnfair 40 = .ok (.iconst 0, 1) := by decide +kernel
theorem dX4_countUnfair_41 : decode cX4_countUnfair 41 = .ok (.iaload, 1) := by decide +kernel
theorem dX4_countUnfair_42 : decode cX4_countUnfair 42 = .ok (.if_icmp .le 6, 3) := by decide +kernel
theorem dX4_countUnfair_45 : decode cX4_countUnfair 45 = .ok (.iinc 1 1, 3) := by decide +kernel
theorem dX4_countUnfair_48 : decode cX4_countUnfair 48 = .ok (.iinc 3 1, 3) := by decide +kernel
theorem dX4_countUnfair_51 : decode cX4_countUnfair 51 = .ok (.goto (-40), 3) := by decide +kernel
theorem dX4_countUnfair_54 : decode cX4_countUnfair 54 = .ok (.iinc 2 1, 3) := by decide +kernel
theorem dX4_countUnfair_57 : decode cX4_countUnfair 57 = .ok (.goto (-53), 3) := by decide +kernel
theorem dX4_countUnfair_60 : decode cX4_countUnfair 60 = .ok (.iload_n 1, 1) := by decide +kernel
theorem dX4_countUnfair_61 : decode cX4_countUnfair 61 = .ok (.ireturn, 1) := by decide +kernel
theorem dX4_seekLeast_0 : decode cX4_seekLeast 0 = .ok (.aload_n 0, 1) := by decide +kernel
theorem dX4_seekLeast_1 : decode cX4_seekLeast 1 = .ok (.getfield 48, 3) := by decide +kernel
theorem dX4_seekLeast_4 : decode cX4_seekLeast 4 = .ok (.iconst 0, 1) := by decide +kernel
theorem dX4_seekLeast_5 : decode cX4_seekLeast 5 = .ok (.iaload, 1) := by decide +kernel
theorem dX4_seekLeast_6 : decode cX4_seekLeast 6 = .ok (.istore_n 3, 1) := by decide +kernel
theorem dX4_seekLeast_7 : decode cX4_seekLeast 7 = .ok (.aload_n 0, 1) := by decide +kernel
theorem dX4_seekLeast_8 : decode cX4_seekLeast 8 = .ok (.getfield 48, 3) := by decide +kernel
theorem dX4_seekLeast_11 : decode cX4_seekLeast 11 = .ok (.iconst 1, 1) := by decide +kernel
theorem dX4_seekLeast_12 : decode cX4_seekLeast 12 = .ok (.iaload, 1) := by decide +kernel
theorem dX4_seekLeast_13 : decode cX4_seekLeast 13 = .ok (.istore 4, 2) := by decide +kernel
theorem dX4_seekLeast_15 : decode cX4_seekLeast 15 = .ok (.aload_n 0, 1) := by decide +kernel
theorem dX4_seekLeast_16 : decode cX4_seekLeast 16 = .ok (.iload_n 1, 1) := by decide +kernel
theorem dX4_seekLeast_17 : decode cX4_seekLeast 17 = .ok (.iload_n 2, 1) := by decide +kernel
theorem dX4_seekLeast_18 : decode cX4_seekLeast 18 = .ok (.invokevirtual 96, 3) := by decide +kernel
theorem dX4_seekLeast_21 : decode cX4_seekLeast 21 = .ok (.aload_n 0, 1) := by decide +kernel
theorem dX4_seekLeast_22 : decode cX4_seekLeast 22 = .ok (.getfield 21, 3) := by decide +kernel
theorem dX4_seekLeast_25 : decode cX4_seekLeast 25 = .ok (.invokevirtual 112, 3) := by decide +kernel
theorem dX4_seekLeast_28 : decode cX4_seekLeast 28 = .ok (.istore 5, 2) := by decide +kernel
theorem dX4_seekLeast_30 : decode cX4_seekLeast 30 = .ok (.iload 5, 2) := by decide +kernel
theorem dX4_seekLeast_32 : decode cX4_seekLeast 32 = .ok (.iload_n 3, 1) := by decide +kernel
theorem dX4_seekLeast_33 : decode cX4_seekLeast 33 = .ok (.if_icmp .gt 12, 3) := by decide +kernel
theorem dX4_seekLeast_36 : decode cX4_seekLeast 36 = .ok (.aload_n 0, 1) := by decide +kernel
theorem dX4_seekLeast_37 : decode cX4_seekLeast 37 = .ok (.getfield 28, 3) := by decide +kernel
theorem dX4_seekLeast_40 : decode cX4_seekLeast 40 = .ok (.invokevirtual 200, 3) := by decide +kernel
theorem dX4_seekLeast_43 : decode cX4_seekLeast 43 = .ok (.iconst 0, 1) := by decide +kernel
theorem dX4_seekLeast_44 : decode cX4_seekLeast 44 = .ok (.ireturn, 1) := by decide +kernel
theorem dX4_seekLeast_45 : decode cX4_seekLeast 45 = .ok (.iload 5, 2) := by decide +kernel
theorem dX4_seekLeast_47 : decode cX4_seekLeast 47 = .ok (.iload_n 3, 1) := by decide +kernel
theorem dX4_seekLeast_48 : decode cX4_seekLeast 48 = .ok (.bipush 8, 2) := by decide +kernel
theorem dX4_seekLeast_50 : decode cX4_seekLeast 50 = .ok (.iload 4, 2) := by decide +kernel
theorem dX4_seekLeast_52 : decode cX4_seekLeast 52 = .ok (.imul, 1) := by decide +kernel
theorem dX4_seekLeast_53 : decode cX4_seekLeast 53 = .ok (.iadd, 1) := by decide +kernel
theorem dX4_seekLeast_54 : decode cX4_seekLeast 54 = .ok (.if_icmp .le 6, 3) := by decide +kernel
theorem dX4_seekLeast_57 : decode cX4_seekLeast 57 = .ok (.bipush (-9), 2) := by decide +kernel
theorem dX4_seekLeast_59 : decode cX4_seekLeast 59 = .ok (.ireturn, 1) := by decide +kernel
theorem dX4_seekLeast_60 : decode cX4_seekLeast 60 = .ok (.iconst 0, 1) := by decide +kernel
theorem dX4_seekLeast_61 : decode cX4_seekLeast 61 = .ok (.istore 6, 2) := by decide +kernel
theorem dX4_seekLeast_63 : decode cX4_seekLeast 63 = .ok (.iload 6, 2) := by decide +kernel
theorem dX4_seekLeast_65 : decode cX4_seekLeast 65 = .ok (.aload_n 0, 1) := by decide +kernel
theorem dX4_seekLeast_66 : decode cX4_seekLeast 66 = .ok (.getfield 21, 3) := by decide +kernel
theorem dX4_seekLeast_69 : decode cX4_seekLeast 69 = .ok (.getfield 99, 3) := by decide +kernel
theorem dX4_seekLeast_72 : decode cX4_seekLeast 72 = .ok (.if_icmp .ge 60, 3) := by decide +kernel
theorem dX4_seekLeast_75 : decode cX4_seekLeast 75 = .ok (.aload_n 0, 1) := by decide +kernel
theorem dX4_seekLeast_76 : decode cX4_seekLeast 76 = .ok (.getfield 14, 3) := by decide +kernel
theorem dX4_seekLeast_79 : decode cX4_seekLeast 79 = .ok (.getfield 76, 3) := by decide +kernel
theorem dX4_seekLeast_82 : decode cX4_seekLeast 82 = .ok (.aload_n 0, 1) := by decide +kernel
theorem dX4_seekLeast_83 : decode cX4_seekLeast 83 = .ok (.getfield 14, 3) := by decide +kernel
theorem dX4_seekLeast_86 : decode cX4_seekLeast 86 = .ok (.iload_n 1, 1) := by decide +kernel
theorem dX4_seekLeast_87 : decode cX4_seekLeast 87 = .ok (.iload_n 2, 1) := by decide +kernel
theorem dX4_seekLeast_88 : decode cX4_seekLeast 88 = .ok (.iload 6, 2) := by decide +kernel
theorem dX4_seekLeast_90 : decode cX4_seekLeast 90 = .ok (.invokevirtual 203, 3) := by decide +kernel
theorem dX4_seekLeast_93 : decode cX4_seekLeast 93 = .ok (.baload, 1) := by decide +kernel
theorem dX4_seekLeast_94 : decode cX4_seekLeast 94 = .ok (.istore 7, 2) := by decide +kernel
theorem dX4_seekLeast_96 : decode cX4_seekLeast 96 = .ok (.aload_n 0, 1) := by decide +kernel
theorem dX4_seekLeast_97 : decode cX4_seekLeast 97 = .ok (.getfield 28, 3) := by decide +kernel
theorem dX4_seekLeast_100 : decode cX4_seekLeast 100 = .ok (.iload 6, 2) := by decide +kernel
theorem dX4_seekLeast_102 : decode cX4_seekLeast 102 = .ok (.aload_n 0, 1) := by decide +kernel
theorem dX4_seekLeast_103 : decode cX4_seekLeast 103 = .ok (.getfield 21, 3) := by decide +kernel
theorem dX4_seekLeast_106 : decode cX4_seekLeast 106 = .ok (.getfield 152, 3) := by decide +kernel
theorem dX4_seekLeast_109 : decode cX4_seekLeast 109 = .ok (.iload 6, 2) := by decide +kernel
theorem dX4_seekLeast_111 : decode cX4_seekLeast 111 = .ok (.iaload, 1) := by decide +kernel
theorem dX4_seekLeast_112 : decode cX4_seekLeast 112 = .ok (.iload 7, 2) := by decide +kernel
theorem dX4_seekLeast_114 : decode cX4_seekLeast 114 = .ok (.ifCond .eq 7, 3) := by decide +kernel
theorem dX4_seekLeast_117 : decode cX4_seekLeast 117 = .ok (.iconst 0, 1) := by decide +kernel
theorem dX4_seekLeast_118 : decode cX4_seekLeast 118 = .ok (.goto 5, 3) := by decide +kernel
theorem dX4_seekLeast_121 : decode cX4_seekLeast 121 = .ok (.iload 4, 2) := by decide +kernel
theorem dX4_seekLeast_123 : decode cX4_seekLeast 123 = .ok (.invokevirtual 207, 3) := by decide +kernel
theorem dX4_seekLeast_126 : decode cX4_seekLeast 126 = .ok (.iinc 6 1, 3) := by decide +kernel
theorem dX4_seekLeast_129 : decode cX4_seekLeast 129 = .ok (.goto (-66), 3) := by decide +kernel
theorem dX4_seekLeast_132 : decode cX4_seekLeast 132 = .ok (.aload_n 0, 1) := by decide +kernel
theorem dX4_seekLeast_133 : decode cX4_seekLeast 133 = .ok (.getfield 28, 3) := by decide +kernel
theorem dX4_seekLeast_136 : decode cX4_seekLeast 136 = .ok (.aload_n 0, 1) := by decide +kernel
theorem dX4_seekLeast_137 : decode cX4_seekLeast 137 = .ok (.getfield 21, 3) := by decide +kernel
theorem dX4_seekLeast_140 : decode cX4_seekLeast 140 = .ok (.getfield 99, 3) := by decide +kernel
theorem dX4_seekLeast_143 : decode cX4_seekLeast 143 = .ok (.iload_n 3, 1) := by decide +kernel
theorem dX4_seekLeast_144 : decode cX4_seekLeast 144 = .ok (.invokevirtual 211, 3) := by decide +kernel
theorem dX4_seekLeast_147 : decode cX4_seekLeast 147 = .ok (.ireturn, 1) := by decide +kernel
theorem dX4_addMoves_0 : decode cX4_addMoves 0 = .ok (.aload_n 0, 1) := by decide +kernel
theorem dX4_addMoves_1 : decode cX4_addMoves 1 = .ok (.getfield 14, 3) := by decide +kernel
theorem dX4_addMoves_4 : decode cX4_addMoves 4 = .ok (.iload_n 1, 1) := by decide +kernel
theorem dX4_addMoves_5 : decode cX4_addMoves 5 = .ok (.invokevirtual 122, 3) := by decide +kernel
theorem dX4_addMoves_8 : decode cX4_addMoves 8 = .ok (.istore_n 3, 1) := by decide +kernel
theorem dX4_addMoves_9 : decode cX4_addMoves 9 = .ok (.iconst 0, 1) := by decide +kernel
theorem dX4_addMoves_10 : decode cX4_addMoves 10 = .ok (.istore 4, 2) := by decide +kernel
theorem dX4_addMoves_12 : decode cX4_addMoves 12 = .ok (.iload 4, 2) := by decide +kernel
theorem dX4_addMoves_14 : decode cX4_addMoves 14 = .ok (.iload_n 3, 1) := by decide +kernel
theorem dX4_addMoves_15 : decode cX4_addMoves 15 = .ok (.if_icmp .ge 40, 3) := by decide +kernel
theorem dX4_addMoves_18 : decode cX4_addMoves 18 = .ok (.aload_n 0, 1) := by decide +kernel
theorem dX4_addMoves_19 : decode cX4_addMoves 19 = .ok (.getfield 14, 3) := by decide +kernel
theorem dX4_addMoves_22 : decode cX4_addMoves 22 = .ok (.getfield 86, 3) := by decide +kernel
theorem dX4_addMoves_25 : decode cX4_addMoves 25 = .ok (.aload_n 0, 1) := by decide +kernel
theorem dX4_addMoves_26 : decode cX4_addMoves 26 = .ok (.getfield 14, 3) := by decide +kernel
theorem dX4_addMoves_29 : decode cX4_addMoves 29 = .ok (.iload_n 1, 1) := by decide +kernel
theorem dX4_addMoves_30 : decode cX4_addMoves 30 = .ok (.iload_n 2, 1) := by decide +kernel
theorem dX4_addMoves_31 : decode cX4_addMoves 31 = .ok (.iload 4, 2) := by decide +kernel
theorem dX4_addMoves_33 : decode cX4_addMoves 33 = .ok (.invokevirtual 203, 3) := by decide +kernel
theorem dX4_addMoves_36 : decode cX4_addMoves 36 = .ok (.dup2, 1) := by decide +kernel
theorem dX4_addMoves_37 : decode cX4_addMoves 37 = .ok (.iaload, 1) := by decide +kernel
theorem dX4_addMoves_38 : decode cX4_addMoves 38 = .ok (.aload_n 0, 1) := by decide +kernel
theorem dX4_addMoves_39 : decode cX4_addMoves 39 = .ok (.getfield 28, 3) := by decide +kernel
theorem dX4_addMoves_42 : decode cX4_addMoves 42 = .ok (.iload 4, 2) := by decide +kernel
theorem dX4_addMoves_44 : decode cX4_addMoves 44 = .ok (.invokevirtual 128, 3) := by decide +kernel
theorem dX4_addMoves_47 : decode cX4_addMoves 47 = .ok (.iadd, 1) := by decide +kernel
theorem dX4_addMoves_48 : decode cX4_addMoves 48 = .ok (.iastore, 1) := by decide +kernel
theorem dX4_addMoves_49 : decode cX4_addMoves 49 = .ok (.iinc 4 1, 3) := by decide +kernel
theorem dX4_addMoves_52 : decode cX4_addMoves 52 = .ok (.goto (-40), 3) := by decide +kernel
theorem dX4_addMoves_55 : decode cX4_addMoves 55 = .ok (.return_, 1) := by decide +kernel
theorem dX4_roundChanges_0 : decode cX4_roundChanges 0 = .ok (.aload_n 0, 1) := by decide +kernel
theorem dX4_roundChanges_1 : decode cX4_roundChanges 1 = .ok (.getfield 14, 3) := by decide +kernel
theorem dX4_roundChanges_4 : decode cX4_roundChanges 4 = .ok (.getfield 86, 3) := by decide +kernel
theorem dX4_roundChanges_7 : decode cX4_roundChanges 7 = .ok (.iconst 0, 1) := by decide +kernel
theorem dX4_roundChanges_8 : decode cX4_roundChanges 8 = .ok (.aload_n 0, 1) := by decide +kernel
theorem dX4_roundChanges_9 : decode cX4_roundChanges 9 = .ok (.getfield 51, 3) := by decide +kernel
theorem dX4_roundChanges_12 : decode cX4_roundChanges 12 = .ok (.iconst 0, 1) := by decide +kernel
theorem dX4_roundChanges_13 : decode cX4_roundChanges 13 = .ok (.bipush 63, 2) := by decide +kernel
theorem dX4_roundChanges_15 : decode cX4_roundChanges 15 = .ok (.invokestatic 214, 3) := by decide +kernel
theorem dX4_roundChanges_18 : decode cX4_roundChanges 18 = .ok (.iconst 0, 1) := by decide +kernel
theorem dX4_roundChanges_19 : decode cX4_roundChanges 19 = .ok (.istore_n 1, 1) := by decide +kernel
theorem dX4_roundChanges_20 : decode cX4_roundChanges 20 = .ok (.iload_n 1, 1) := by decide +kernel
theorem dX4_roundChanges_21 : decode cX4_roundChanges 21 = .ok (.iconst 2, 1) := by decide +kernel
theorem dX4_roundChanges_22 : decode cX4_roundChanges 22 = .ok (.if_icmp .ge 46, 3) := by decide +kernel
theorem dX4_roundChanges_25 : decode cX4_roundChanges 25 = .ok (.iconst 0, 1) := by decide +kernel
theorem dX4_roundChanges_26 : decode cX4_roundChanges 26 = .ok (.istore_n 2, 1) := by decide +kernel
theorem dX4_roundChanges_27 : decode cX4_roundChanges 27 = .ok (.iload_n 2, 1) := by decide +kernel
theorem dX4_roundChanges_28 : decode cX4_roundChanges 28 = .ok (.aload_n 0, 1) := by decide +kernel
theorem dX4_roundChanges_29 : decode cX4_roundChanges 29 = .ok (.getfield 14, 3) := by decide +kernel
theorem dX4_roundChanges_32 : decode cX4_roundChanges 32 = .ok (.iload_n 1, 1) := by decide +kernel
theorem dX4_roundChanges_33 : decode cX4_roundChanges 33 = .ok (.invokevirtual 109, 3) := by decide +kernel
theorem dX4_roundChanges_36 : decode cX4_roundChanges 36 = .ok (.if_icmp .ge 26, 3) := by decide +kernel
theorem dX4_roundChanges_39 : decode cX4_roundChanges 39 = .ok (.aload_n 0, 1) := by decide +kernel
theorem dX4_roundChanges_40 : decode cX4_roundChanges 40 = .ok (.iload_n 1, 1) := by decide +kernel
theorem dX4_roundChanges_41 : decode cX4_roundChanges 41 = .ok (.iload_n 2, 1) := by decide +kernel
theorem dX4_roundChanges_42 : decode cX4_roundChanges 42 = .ok (.invokevirtual 125, 3) := by decide +kernel
theorem dX4_roundChanges_45 : decode cX4_roundChanges 45 = .ok (.bipush (-9), 2) := by decide +kernel
theorem dX4_roundChanges_47 : decode cX4_roundChanges 47 = .ok (.if_icmp .eq 9, 3) := by decide +kernel
theorem dX4_roundChanges_50 : decode cX4_roundChanges 50 = .ok (.aload_n 0, 1) := by decide +kernel
theorem dX4_roundChanges_51 : decode cX4_roundChanges 51 = .ok (.iload_n 1, 1) := by decide +kernel
theorem dX4_roundChanges_52 : decode cX4_roundChanges 52 = .ok (.iload_n 2, 1) := by decide +kernel
theorem dX4_roundChanges_53 : decode cX4_roundChanges 53 = .ok (.invokevirtual 131, 3) := by decide +kernel
theorem dX4_roundChanges_56 : decode cX4_roundChanges 56 = .ok (.iinc 2 1, 3) := by decide +kernel
theorem dX4_roundChanges_59 : decode cX4_roundChanges 59 = .ok (.goto (-32), 3) := by decide +kernel
theorem dX4_roundChanges_62 : decode cX4_roundChanges 62 = .ok (.iinc 1 1, 3) := by decide +kernel
theorem dX4_roundChanges_65 : decode cX4_roundChanges 65 = .ok (.goto (-45), 3) := by decide +kernel
theorem dX4_roundChanges_68 : decode cX4_roundChanges 68 = .ok (.iconst 0, 1) := by decide +kernel
theorem dX4_roundChanges_69 : decode cX4_roundChanges 69 = .ok (.istore_n 1, 1) := by decide +kernel
theorem dX4_roundChanges_70 : decode cX4_roundChanges 70 = .ok (.iload_n 1, 1) := by decide +kernel
theorem dX4_roundChanges_71 : decode cX4_roundChanges 71 = .ok (.bipush 63, 2) := by decide +kernel
theorem dX4_roundChanges_73 : decode cX4_roundChanges 73 = .ok (.if_icmp .ge 29, 3) := by decide +kernel
theorem dX4_roundChanges_76 : decode cX4_roundChanges 76 = .ok (.aload_n 0, 1) := by decide +kernel
theorem dX4_roundChanges_77 : decode cX4_roundChanges 77 = .ok (.getfield 14, 3) := by decide +kernel
theorem dX4_roundChanges_80 : decode cX4_roundChanges 80 = .ok (.getfield 86, 3) := by decide +kernel
theorem dX4_roundChanges_83 : decode cX4_roundChanges 83 = .ok (.iload_n 1, 1) := by decide +kernel
theorem dX4_roundChanges_84 : decode cX4_roundChanges 84 = .ok (.iaload, 1) := by decide +kernel
theorem dX4_roundChanges_85 : decode cX4_roundChanges 85 = .ok (.aload_n 0, 1) := by decide +kernel
theorem dX4_roundChanges_86 : decode cX4_roundChanges 86 = .ok (.getfield 51, 3) := by decide +kernel
theorem dX4_roundChanges_89 : decode cX4_roundChanges 89 = .ok (.iload_n 1, 1) := by decide +kernel
theorem dX4_roundChanges_90 : decode cX4_roundChanges 90 = .ok (.iaload, 1) := by decide +kernel
theorem dX4_roundChanges_91 : decode cX4_roundChanges 91 = .ok (.if_icmp .eq 5, 3) := by decide +kernel
theorem dX4_roundChanges_94 : decode cX4_roundChanges 94 = .ok (.iconst 1, 1) := by decide +kernel
theorem dX4_roundChanges_95 : decode cX4_roundChanges 95 = .ok (.ireturn, 1) := by decide +kernel
theorem dX4_roundChanges_96 : decode cX4_roundChanges 96 = .ok (.iinc 1 1, 3) := by decide +kernel
theorem dX4_roundChanges_99 : decode cX4_roundChanges 99 = .ok (.goto (-29), 3) := by decide +kernel
theorem dX4_roundChanges_102 : decode cX4_roundChanges 102 = .ok (.iconst 0, 1) := by decide +kernel
theorem dX4_roundChanges_103 : decode cX4_roundChanges 103 = .ok (.ireturn, 1) := by decide +kernel
theorem dX4_areaInSixths_0 : decode cX4_areaInSixths 0 = .ok (.aload_n 0, 1) := by decide +kernel
theorem dX4_areaInSixths_1 : decode cX4_areaInSixths 1 = .ok (.iload_n 1, 1) := by decide +kernel
theorem dX4_areaInSixths_2 : decode cX4_areaInSixths 2 = .ok (.iload_n 2, 1) := by decide +kernel
theorem dX4_areaInSixths_3 : decode cX4_areaInSixths 3 = .ok (.invokevirtual 96, 3) := by decide +kernel
theorem dX4_areaInSixths_6 : decode cX4_areaInSixths 6 = .ok (.iload_n 1, 1) := by decide +kernel
theorem dX4_areaInSixths_7 : decode cX4_areaInSixths 7 = .ok (.ifCond .ne 12, 3) := by decide +kernel
theorem dX4_areaInSixths_10 : decode cX4_areaInSixths 10 = .ok (.aload_n 0, 1) := by decide +kernel
theorem dX4_areaInSixths_11 : decode cX4_areaInSixths 11 = .ok (.getfield 48, 3) := by decide +kernel
theorem dX4_areaInSixths_14 : decode cX4_areaInSixths 14 = .ok (.iconst 2, 1) := by decide +kernel
theorem dX4_areaInSixths_15 : decode cX4_areaInSixths 15 = .ok (.iaload, 1) := by decide +kernel
theorem dX4_areaInSixths_16 : decode cX4_areaInSixths 16 = .ok (.goto 9, 3) := by decide +kernel
theorem dX4_areaInSixths_19 : decode cX4_areaInSixths 19 = .ok (.aload_n 0, 1) := by decide +kernel
theorem dX4_areaInSixths_20 : decode cX4_areaInSixths 20 = .ok (.getfield 48, 3) := by decide +kernel
theorem dX4_areaInSixths_23 : decode cX4_areaInSixths 23 = .ok (.iconst 3, 1) := by decide +kernel
theorem dX4_areaInSixths_24 : decode cX4_areaInSixths 24 = .ok (.iaload, 1) := by decide +kernel
theorem dX4_areaInSixths_25 : decode cX4_areaInSixths 25 = .ok (.istore_n 3, 1) := by decide +kernel
theorem dX4_areaInSixths_26 : decode cX4_areaInSixths 26 = .ok (.aload_n 0, 1) := by decide +kernel
theorem dX4_areaInSixths_27 : decode cX4_areaInSixths 27 = .ok (.getfield 21, 3) := by decide +kernel
theorem dX4_areaInSixths_30 : decode cX4_areaInSixths 30 = .ok (.getfield 152, 3) := by decide +kernel
theorem dX4_areaInSixths_33 : decode cX4_areaInSixths 33 = .ok (.aload_n 0, 1) := by decide +kernel
theorem dX4_areaInSixths_34 : decode cX4_areaInSixths 34 = .ok (.getfield 21, 3) := by decide +kernel
theorem dX4_areaInSixths_37 : decode cX4_areaInSixths 37 = .ok (.getfield 99, 3) := by decide +kernel
theorem dX4_areaInSixths_40 : decode cX4_areaInSixths 40 = .ok (.invokestatic 153, 3) := by decide +kernel
theorem dX4_areaInSixths_43 : decode cX4_areaInSixths 43 = .ok (.iload_n 3, 1) := by decide +kernel
theorem dX4_areaInSixths_44 : decode cX4_areaInSixths 44 = .ok (.imul, 1) := by decide +kernel
theorem dX4_areaInSixths_45 : decode cX4_areaInSixths 45 = .ok (.ireturn, 1) := by decide +kernel
theorem dX4_sumInSixths_0 : decode cX4_sumInSixths 0 = .ok (.iload_n 1, 1) := by decide +kernel
theorem dX4_sumInSixths_1 : decode cX4_sumInSixths 1 = .ok (.iconst 3, 1) := by decide +kernel
theorem dX4_sumInSixths_2 : decode cX4_sumInSixths 2 = .ok (.if_icmp .lt 9, 3) := by decide +kernel
theorem dX4_sumInSixths_5 : decode cX4_sumInSixths 5 = .ok (.iload_n 1, 1) := by decide +kernel
theorem dX4_sumInSixths_6 : decode cX4_sumInSixths 6 = .ok (.aload_n 0, 1) := by decide +kernel
theorem dX4_sumInSixths_7 : decode cX4_sumInSixths 7 = .ok (.arraylength, 1) := by decide +kernel
theorem dX4_sumInSixths_8 : decode cX4_sumInSixths 8 = .ok (.if_icmp .le 5, 3) := by decide +kernel
theorem dX4_sumInSixths_11 : decode cX4_sumInSixths 11 = .ok (.iconst 0, 1) := by decide +kernel
theorem dX4_sumInSixths_12 : decode cX4_sumInSixths 12 = .ok (.ireturn, 1) := by decide +kernel
theorem dX4_sumInSixths_13 : decode cX4_sumInSixths 13 = .ok (.iload_n 1, 1) := by decide +kernel
theorem dX4_sumInSixths_14 : decode cX4_sumInSixths 14 = .ok (.iconst 2, 1) := by decide +kernel
theorem dX4_sumInSixths_15 : decode cX4_sumInSixths 15 = .ok (.irem, 1) := by decide +kernel
theorem dX4_sumInSixths_16 : decode cX4_sumInSixths 16 = .ok (.ifCond .ne 9, 3) := by decide +kernel
theorem dX4_sumInSixths_19 : decode cX4_sumInSixths 19 = .ok (.iload_n 1, 1) := by decide +kernel
theorem dX4_sumInSixths_20 : decode cX4_sumInSixths 20 = .ok (.iconst 1, 1) := by decide +kernel
theorem dX4_sumInSixths_21 : decode cX4_sumInSixths 21 = .ok (.isub, 1) := by decide +kernel
theorem dX4_sumInSixths_22 : decode cX4_sumInSixths 22 = .ok (.goto 4, 3) := by decide +kernel
theorem dX4_sumInSixths_25 : decode cX4_sumInSixths 25 = .ok (.iload_n 1, 1) := by decide +kernel
theorem dX4_sumInSixths_26 : decode cX4_sumInSixths 26 = .ok (.istore_n 2, 1) := by decide +kernel
theorem dX4_sumInSixths_27 : decode cX4_sumInSixths 27 = .ok (.aload_n 0, 1) := by decide +kernel
theorem dX4_sumInSixths_28 : decode cX4_sumInSixths 28 = .ok (.iconst 0, 1) := by decide +kernel
theorem dX4_sumInSixths_29 : decode cX4_sumInSixths 29 = .ok (.iaload, 1) := by decide +kernel
theorem dX4_sumInSixths_30 : decode cX4_sumInSixths 30 = .ok (.aload_n 0, 1) := by decide +kernel
theorem dX4_sumInSixths_31 : decode cX4_sumInSixths 31 = .ok (.iload_n 2, 1) := by decide +kernel
theorem dX4_sumInSixths_32 : decode cX4_sumInSixths 32 = .ok (.iconst 1, 1) := by decide +kernel
theorem dX4_sumInSixths_33 : decode cX4_sumInSixths 33 = .ok (.isub, 1) := by decide +kernel
theorem dX4_sumInSixths_34 : decode cX4_sumInSixths 34 = .ok (.iaload, 1) := by decide +kernel
theorem dX4_sumInSixths_35 : decode cX4_sumInSixths 35 = .ok (.iadd, 1) := by decide +kernel
theorem dX4_sumInSixths_36 : decode cX4_sumInSixths 36 = .ok (.istore_n 3, 1) := by decide +kernel
theorem dX4_sumInSixths_37 : decode cX4_sumInSixths 37 = .ok (.iconst 1, 1) := by decide +kernel
theorem dX4_sumInSixths_38 : decode cX4_sumInSixths 38 = .ok (.istore 4, 2) := by decide +kernel
theorem dX4_sumInSixths_40 : decode cX4_sumInSixths 40 = .ok (.iload 4, 2) := by decide +kernel
theorem dX4_sumInSixths_42 : decode cX4_sumInSixths 42 = .ok (.iload_n 2, 1) := by decide +kernel
theorem dX4_sumInSixths_43 : decode cX4_sumInSixths 43 = .ok (.iconst 1, 1) := by decide +kernel
theorem dX4_sumInSixths_44 : decode cX4_sumInSixths 44 = .ok (.isub, 1) := by decide +kernel
theorem dX4_sumInSixths_45 : decode cX4_sumInSixths 45 = .ok (.if_icmp .ge 29, 3) := by decide +kernel
theorem dX4_sumInSixths_48 : decode cX4_sumInSixths 48 = .ok (.iload_n 3, 1) := by decide +kernel
theorem dX4_sumInSixths_49 : decode cX4_sumInSixths 49 = .ok (.iload 4, 2) := by decide +kernel
theorem dX4_sumInSixths_51 : decode cX4_sumInSixths 51 = .ok (.iconst 2, 1) := by decide +kernel
theorem dX4_sumInSixths_52 : decode cX4_sumInSixths 52 = .ok (.irem, 1) := by decide +kernel
theorem dX4_sumInSixths_53 : decode cX4_sumInSixths 53 = .ok (.ifCond .ne 7, 3) := by decide +kernel
theorem dX4_sumInSixths_56 : decode cX4_sumInSixths 56 = .ok (.iconst 2, 1) := by decide +kernel
theorem dX4_sumInSixths_57 : decode cX4_sumInSixths 57 = .ok (.goto 4, 3) := by decide +kernel
theorem dX4_sumInSixths_60 : decode cX4_sumInSixths 60 = .ok (.iconst 4, 1) := by decide +kernel
theorem dX4_sumInSixths_61 : decode cX4_sumInSixths 61 = .ok (.aload_n 0, 1) := by decide +kernel
theorem dX4_sumInSixths_62 : decode cX4_sumInSixths 62 = .ok (.iload 4, 2) := by decide +kernel
theorem dX4_sumInSixths_64 : decode cX4_sumInSixths 64 = .ok (.iaload, 1) := by decide +kernel
theorem dX4_sumInSixths_65 : decode cX4_sumInSixths 65 = .ok (.imul, 1) := by decide +kernel
theorem dX4_sumInSixths_66 : decode cX4_sumInSixths 66 = .ok (.iadd, 1) := by decide +kernel
theorem dX4_sumInSixths_67 : decode cX4_sumInSixths 67 = .ok (.istore_n 3, 1) := by decide +kernel
theorem dX4_sumInSixths_68 : decode cX4_sumInSixths 68 = .ok (.iinc 4 1, 3) := by decide +kernel
theorem dX4_sumInSixths_71 : decode cX4_sumInSixths 71 = .ok (.goto (-31), 3) := by decide +kernel
theorem dX4_sumInSixths_74 : decode cX4_sumInSixths 74 = .ok (.iconst 2, 1) := by decide +kernel
theorem dX4_sumInSixths_75 : decode cX4_sumInSixths 75 = .ok (.iload_n 3, 1) := by decide +kernel
theorem dX4_sumInSixths_76 : decode cX4_sumInSixths 76 = .ok (.imul, 1) := by decide +kernel
theorem dX4_sumInSixths_77 : decode cX4_sumInSixths 77 = .ok (.istore 4, 2) := by decide +kernel
theorem dX4_sumInSixths_79 : decode cX4_sumInSixths 79 = .ok (.iload_n 2, 1) := by decide +kernel
theorem dX4_sumInSixths_80 : decode cX4_sumInSixths 80 = .ok (.iload_n 1, 1) := by decide +kernel
theorem dX4_sumInSixths_81 : decode cX4_sumInSixths 81 = .ok (.if_icmp .ne 8, 3) := by decide +kernel
theorem dX4_sumInSixths_84 : decode cX4_sumInSixths 84 = .ok (.iload 4, 2) := by decide +kernel
theorem dX4_sumInSixths_86 : decode cX4_sumInSixths 86 = .ok (.goto 19, 3) := by decide +kernel
theorem dX4_sumInSixths_89 : decode cX4_sumInSixths 89 = .ok (.iload 4, 2) := by decide +kernel
theorem dX4_sumInSixths_91 : decode cX4_sumInSixths 91 = .ok (.iconst 3, 1) := by decide +kernel
theorem dX4_sumInSixths_92 : decode cX4_sumInSixths 92 = .ok (.aload_n 0, 1) := by decide +kernel
theorem dX4_sumInSixths_93 : decode cX4_sumInSixths 93 = .ok (.iload_n 1, 1) := by decide +kernel
theorem dX4_sumInSixths_94 : decode cX4_sumInSixths 94 = .ok (.iconst 2, 1) := by decide +kernel
theorem dX4_sumInSixths_95 : decode cX4_sumInSixths 95 = .ok (.isub, 1) := by decide +kernel
theorem dX4_sumInSixths_96 : decode cX4_sumInSixths 96 = .ok (.iaload, 1) := by decide +kernel
theorem dX4_sumInSixths_97 : decode cX4_sumInSixths 97 = .ok (.aload_n 0, 1) := by decide +kernel
theorem dX4_sumInSixths_98 : decode cX4_sumInSixths 98 = .ok (.iload_n 1, 1) := by decide +kernel
theorem dX4_sumInSixths_99 : decode cX4_sumInSixths 99 = .ok (.iconst 1, 1) := by decide +kernel
theorem dX4_sumInSixths_100 : decode cX4_sumInSixths 100 = .ok (.isub, 1) := by decide +kernel
theorem dX4_sumInSixths_101 : decode cX4_sumInSixths 101 = .ok (.iaload, 1) := by decide +kernel
theorem dX4_sumInSixths_102 : decode cX4_sumInSixths 102 = .ok (.iadd, 1) := by decide +kernel
theorem dX4_sumInSixths_103 : decode cX4_sumInSixths 103 = .ok (.imul, 1) := by decide +kernel
theorem dX4_sumInSixths_104 : decode cX4_sumInSixths 104 = .ok (.iadd, 1) := by decide +kernel
theorem dX4_sumInSixths_105 : decode cX4_sumInSixths 105 = .ok (.ireturn, 1) := by decide +kernel
theorem dX4_toldShare_0 : decode cX4_toldShare 0 = .ok (.lload_n 0, 1) := by decide +kernel
theorem dX4_toldShare_1 : decode cX4_toldShare 1 = .ok (.lload_n 2, 1) := by decide +kernel
theorem dX4_toldShare_2 : decode cX4_toldShare 2 = .ok (.invokestatic 220, 3) := by decide +kernel
theorem dX4_toldShare_5 : decode cX4_toldShare 5 = .ok (.lstore 5, 2) := by decide +kernel
theorem dX4_toldShare_7 : decode cX4_toldShare 7 = .ok (.lload 5, 2) := by decide +kernel
theorem dX4_toldShare_9 : decode cX4_toldShare 9 = .ok (.lconst 0, 1) := by decide +kernel
theorem dX4_toldShare_10 : decode cX4_toldShare 10 = .ok (.lcmp, 1) := by decide +kernel
theorem dX4_toldShare_11 : decode cX4_toldShare 11 = .ok (.ifCond .ne 7, 3) := by decide +kernel
theorem dX4_toldShare_14 : decode cX4_toldShare 14 = .ok (.ldc2_w 141, 3) := by decide +kernel
theorem dX4_toldShare_17 : decode cX4_toldShare 17 = .ok (.lreturn, 1) := by decide +kernel
theorem dX4_toldShare_18 : decode cX4_toldShare 18 = .ok (.iload 4, 2) := by decide +kernel
theorem dX4_toldShare_20 : decode cX4_toldShare 20 = .ok (.ifCond .ne 10, 3) := by decide +kernel
theorem dX4_toldShare_23 : decode cX4_toldShare 23 = .ok (.lload_n 0, 1) := by decide +kernel
theorem dX4_toldShare_24 : decode cX4_toldShare 24 = .ok (.lload 5, 2) := by decide +kernel
theorem dX4_toldShare_26 : decode cX4_toldShare 26 = .ok (.ldiv, 1) := by decide +kernel
theorem dX4_toldShare_27 : decode cX4_toldShare 27 = .ok (.goto 7, 3) := by decide +kernel
theorem dX4_toldShare_30 : decode cX4_toldShare 30 = .ok (.lload_n 2, 1) := by decide +kernel
theorem dX4_toldShare_31 : decode cX4_toldShare 31 = .ok (.lload 5, 2) := by decide +kernel
theorem dX4_toldShare_33 : decode cX4_toldShare 33 = .ok (.ldiv, 1) := by decide +kernel
theorem dX4_toldShare_34 : decode cX4_toldShare 34 = .ok (.lreturn, 1) := by decide +kernel
theorem dX4_commonDivisor_0 : decode cX4_commonDivisor 0 = .ok (.lload_n 0, 1) := by decide +kernel
theorem dX4_commonDivisor_1 : decode cX4_commonDivisor 1 = .ok (.lstore 4, 2) := by decide +kernel
theorem dX4_commonDivisor_3 : decode cX4_commonDivisor 3 = .ok (.lload_n 2, 1) := by decide +kernel
theorem dX4_commonDivisor_4 : decode cX4_commonDivisor 4 = .ok (.lstore 6, 2) := by decide +kernel
theorem dX4_commonDivisor_6 : decode cX4_commonDivisor 6 = .ok (.iconst 0, 1) := by decide +kernel
theorem dX4_commonDivisor_7 : decode cX4_commonDivisor 7 = .ok (.istore 8, 2) := by decide +kernel
theorem dX4_commonDivisor_9 : decode cX4_commonDivisor 9 = .ok (.iload 8, 2) := by decide +kernel
theorem dX4_commonDivisor_11 : decode cX4_commonDivisor 11 = .ok (.bipush 100, 2) := by decide +kernel
theorem dX4_commonDivisor_13 : decode cX4_commonDivisor 13 = .ok (.if_icmp .ge 31, 3) := by decide +kernel
theorem dX4_commonDivisor_16 : decode cX4_commonDivisor 16 = .ok (.lload 6, 2) := by decide +kernel
theorem dX4_commonDivisor_18 : decode cX4_commonDivisor 18 = .ok (.lconst 0, 1) := by decide +kernel
theorem dX4_commonDivisor_19 : decode cX4_commonDivisor 19 = .ok (.lcmp, 1) := by decide +kernel
theorem dX4_commonDivisor_20 : decode cX4_commonDivisor 20 = .ok (.ifCond .eq 24, 3) := by decide +kernel
theorem dX4_commonDivisor_23 : decode cX4_commonDivisor 23 = .ok (.lload 4, 2) := by decide +kernel
theorem dX4_commonDivisor_25 : decode cX4_commonDivisor 25 = .ok (.lload 6, 2) := by decide +kernel
theorem dX4_commonDivisor_27 : decode cX4_commonDivisor 27 = .ok (.lrem, 1) := by decide +kernel
theorem dX4_commonDivisor_28 : decode cX4_commonDivisor 28 = .ok (.lstore 9, 2) := by decide +kernel
theorem dX4_commonDivisor_30 : decode cX4_commonDivisor 30 = .ok (.lload 6, 2) := by decide +kernel
theorem dX4_commonDivisor_32 : decode cX4_commonDivisor 32 = .ok (.lstore 4, 2) := by decide +kernel
theorem dX4_commonDivisor_34 : decode cX4_commonDivisor 34 = .ok (.lload 9, 2) := by decide +kernel
theorem dX4_commonDivisor_36 : decode cX4_commonDivisor 36 = .ok (.lstore 6, 2) := by decide +kernel
theorem dX4_commonDivisor_38 : decode cX4_commonDivisor 38 = .ok (.iinc 8 1, 3) := by decide +kernel
theorem dX4_commonDivisor_41 : decode cX4_commonDivisor 41 = .ok (.goto (-32), 3) := by decide +kernel
theorem dX4_commonDivisor_44 : decode cX4_commonDivisor 44 = .ok (.lload 4, 2) := by decide +kernel
theorem dX4_commonDivisor_46 : decode cX4_commonDivisor 46 = .ok (.lreturn, 1) := by decide +kernel
