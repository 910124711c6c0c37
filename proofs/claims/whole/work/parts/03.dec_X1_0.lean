theorem dX1_init_0 : decode cX1_init 0 = .ok (.aload_n 0, 1) := by decide +kernel
theorem dX1_init_1 : decode cX1_init 1 = .ok (.invokespecial 3, 3) := by decide +kernel
theorem dX1_init_4 : decode cX1_init 4 = .ok (.aload_n 0, 1) := by decide +kernel
theorem dX1_init_5 : decode cX1_init 5 = .ok (.bipush 9, 2) := by decide +kernel
theorem dX1_init_7 : decode cX1_init 7 = .ok (.newarray .long, 2) := by decide +kernel
theorem dX1_init_9 : decode cX1_init 9 = .ok (.putfield 9, 3) := by decide +kernel
theorem dX1_init_12 : decode cX1_init 12 = .ok (.aload_n 0, 1) := by decide +kernel
theorem dX1_init_13 : decode cX1_init 13 = .ok (.bipush 9, 2) := by decide +kernel
theorem dX1_init_15 : decode cX1_init 15 = .ok (.newarray .long, 2) := by decide +kernel
theorem dX1_init_17 : decode cX1_init 17 = .ok (.putfield 15, 3) := by decide +kernel
theorem dX1_init_20 : decode cX1_init 20 = .ok (.return_, 1) := by decide +kernel
theorem dX1_isThere_0 : decode cX1_isThere 0 = .ok (.aload_n 0, 1) := by decide +kernel
theorem dX1_isThere_1 : decode cX1_isThere 1 = .ok (.getfield 15, 3) := by decide +kernel
theorem dX1_isThere_4 : decode cX1_isThere 4 = .ok (.iload_n 1, 1) := by decide +kernel
theorem dX1_isThere_5 : decode cX1_isThere 5 = .ok (.laload, 1) := by decide +kernel
theorem dX1_isThere_6 : decode cX1_isThere 6 = .ok (.lconst 0, 1) := by decide +kernel
theorem dX1_isThere_7 : decode cX1_isThere 7 = .ok (.lcmp, 1) := by decide +kernel
theorem dX1_isThere_8 : decode cX1_isThere 8 = .ok (.ifCond .le 7, 3) := by decide +kernel
theorem dX1_isThere_11 : decode cX1_isThere 11 = .ok (.iconst 1, 1) := by decide +kernel
theorem dX1_isThere_12 : decode cX1_isThere 12 = .ok (.goto 4, 3) := by decide +kernel
theorem dX1_isThere_15 : decode cX1_isThere 15 = .ok (.iconst 0, 1) := by decide +kernel
theorem dX1_isThere_16 : decode cX1_isThere 16 = .ok (.ireturn, 1) := by decide +kernel
theorem dX1_measure_0 : decode cX1_measure 0 = .ok (.iconst 0, 1) := by decide +kernel
theorem dX1_measure_1 : decode cX1_measure 1 = .ok (.istore 4, 2) := by decide +kernel
theorem dX1_measure_3 : decode cX1_measure 3 = .ok (.iload 4, 2) := by decide +kernel
theorem dX1_measure_5 : decode cX1_measure 5 = .ok (.aload_n 1, 1) := by decide +kernel
theorem dX1_measure_6 : decode cX1_measure 6 = .ok (.getfield 18, 3) := by decide +kernel
theorem dX1_measure_9 : decode cX1_measure 9 = .ok (.if_icmp .ge 24, 3) := by decide +kernel
theorem dX1_measure_12 : decode cX1_measure 12 = .ok (.aload_n 1, 1) := by decide +kernel
theorem dX1_measure_13 : decode cX1_measure 13 = .ok (.getfield 24, 3) := by decide +kernel
theorem dX1_measure_16 : decode cX1_measure 16 = .ok (.iload_n 2, 1) := by decide +kernel
theorem dX1_measure_17 : decode cX1_measure 17 = .ok (.iload 4, 2) := by decide +kernel
theorem dX1_measure_19 : decode cX1_measure 19 = .ok (.invokestatic 28, 3) := by decide +kernel
theorem dX1_measure_22 : decode cX1_measure 22 = .ok (.iaload, 1) := by decide +kernel
theorem dX1_measure_23 : decode cX1_measure 23 = .ok (.iload_n 3, 1) := by decide +kernel
theorem dX1_measure_24 : decode cX1_measure 24 = .ok (.if_icmp .ge 9, 3) := by decide +kernel
theorem dX1_measure_27 : decode cX1_measure 27 = .ok (.iinc 4 1, 3) := by decide +kernel
theorem dX1_measure_30 : decode cX1_measure 30 = .ok (.goto (-27), 3) := by decide +kernel
theorem dX1_measure_33 : decode cX1_measure 33 = .ok (.iload 4, 2) := by decide +kernel
theorem dX1_measure_35 : decode cX1_measure 35 = .ok (.aload_n 1, 1) := by decide +kernel
theorem dX1_measure_36 : decode cX1_measure 36 = .ok (.getfield 18, 3) := by decide +kernel
theorem dX1_measure_39 : decode cX1_measure 39 = .ok (.if_icmp .ne 20, 3) := by decide +kernel
theorem dX1_measure_42 : decode cX1_measure 42 = .ok (.aload_n 0, 1) := by decide +kernel
theorem dX1_measure_43 : decode cX1_measure 43 = .ok (.getfield 9, 3) := by decide +kernel
theorem dX1_measure_46 : decode cX1_measure 46 = .ok (.iload_n 2, 1) := by decide +kernel
theorem dX1_measure_47 : decode cX1_measure 47 = .ok (.lconst 0, 1) := by decide +kernel
theorem dX1_measure_48 : decode cX1_measure 48 = .ok (.lastore, 1) := by decide +kernel
theorem dX1_measure_49 : decode cX1_measure 49 = .ok (.aload_n 0, 1) := by decide +kernel
theorem dX1_measure_50 : decode cX1_measure 50 = .ok (.getfield 15, 3) := by decide +kernel
theorem dX1_measure_53 : decode cX1_measure 53 = .ok (.iload_n 2, 1) := by decide +kernel
theorem dX1_measure_54 : decode cX1_measure 54 = .ok (.lconst 0, 1) := by decide +kernel
theorem dX1_measure_55 : decode cX1_measure 55 = .ok (.lastore, 1) := by decide +kernel
theorem dX1_measure_56 : decode cX1_measure 56 = .ok (.goto 86, 3) := by decide +kernel
theorem dX1_measure_59 : decode cX1_measure 59 = .ok (.iload 4, 2) := by decide +kernel
theorem dX1_measure_61 : decode cX1_measure 61 = .ok (.ifCond .ne 20, 3) := by decide +kernel
theorem dX1_measure_64 : decode cX1_measure 64 = .ok (.aload_n 0, 1) := by decide +kernel
theorem dX1_measure_65 : decode cX1_measure 65 = .ok (.getfield 9, 3) := by decide +kernel
theorem dX1_measure_68 : decode cX1_measure 68 = .ok (.iload_n 2, 1) := by decide +kernel
theorem dX1_measure_69 : decode cX1_measure 69 = .ok (.lconst 0, 1) := by decide +kernel
theorem dX1_measure_70 : decode cX1_measure 70 = .ok (.lastore, 1) := by decide +kernel
theorem dX1_measure_71 : decode cX1_measure 71 = .ok (.aload_n 0, 1) := by decide +kernel
theorem dX1_measure_72 : decode cX1_measure 72 = .ok (.getfield 15, 3) := by decide +kernel
theorem dX1_measure_75 : decode cX1_measure 75 = .ok (.iload_n 2, 1) := by decide +kernel
theorem dX1_measure_76 : decode cX1_measure 76 = .ok (.lconst 1, 1) := by decide +kernel
theorem dX1_measure_77 : decode cX1_measure 77 = .ok (.lastore, 1) := by decide +kernel
theorem dX1_measure_78 : decode cX1_measure 78 = .ok (.goto 64, 3) := by decide +kernel
theorem dX1_measure_81 : decode cX1_measure 81 = .ok (.aload_n 1, 1) := by decide +kernel
theorem dX1_measure_82 : decode cX1_measure 82 = .ok (.getfield 24, 3) := by decide +kernel
theorem dX1_measure_85 : decode cX1_measure 85 = .ok (.iload_n 2, 1) := by decide +kernel
theorem dX1_measure_86 : decode cX1_measure 86 = .ok (.iload 4, 2) := by decide +kernel
theorem dX1_measure_88 : decode cX1_measure 88 = .ok (.iconst 1, 1) := by decide +kernel
theorem dX1_measure_89 : decode cX1_measure 89 = .ok (.isub, 1) := by decide +kernel
theorem dX1_measure_90 : decode cX1_measure 90 = .ok (.invokestatic 28, 3) := by decide +kernel
theorem dX1_measure_93 : decode cX1_measure 93 = .ok (.iaload, 1) := by decide +kernel
theorem dX1_measure_94 : decode cX1_measure 94 = .ok (.istore 5, 2) := by decide +kernel
theorem dX1_measure_96 : decode cX1_measure 96 = .ok (.aload_n 0, 1) := by decide +kernel
theorem dX1_measure_97 : decode cX1_measure 97 = .ok (.getfield 15, 3) := by decide +kernel
theorem dX1_measure_100 : decode cX1_measure 100 = .ok (.iload_n 2, 1) := by decide +kernel
theorem dX1_measure_101 : decode cX1_measure 101 = .ok (.aload_n 1, 1) := by decide +kernel
theorem dX1_measure_102 : decode cX1_measure 102 = .ok (.getfield 24, 3) := by decide +kernel
theorem dX1_measure_105 : decode cX1_measure 105 = .ok (.iload_n 2, 1) := by decide +kernel
theorem dX1_measure_106 : decode cX1_measure 106 = .ok (.iload 4, 2) := by decide +kernel
theorem dX1_measure_108 : decode cX1_measure 108 = .ok (.invokestatic 28, 3) := by decide +kernel
theorem dX1_measure_111 : decode cX1_measure 111 = .ok (.iaload, 1) := by decide +kernel
theorem dX1_measure_112 : decode cX1_measure 112 = .ok (.iload 5, 2) := by decide +kernel
theorem dX1_measure_114 : decode cX1_measure 114 = .ok (.isub, 1) := by decide +kernel
theorem dX1_measure_115 : decode cX1_measure 115 = .ok (.i2l, 1) := by decide +kernel
theorem dX1_measure_116 : decode cX1_measure 116 = .ok (.lastore, 1) := by decide +kernel
theorem dX1_measure_117 : decode cX1_measure 117 = .ok (.aload_n 0, 1) := by decide +kernel
theorem dX1_measure_118 : decode cX1_measure 118 = .ok (.getfield 9, 3) := by decide +kernel
theorem dX1_measure_121 : decode cX1_measure 121 = .ok (.iload_n 2, 1) := by decide +kernel
theorem dX1_measure_122 : decode cX1_measure 122 = .ok (.iload 4, 2) := by decide +kernel
theorem dX1_measure_124 : decode cX1_measure 124 = .ok (.iconst 1, 1) := by decide +kernel
theorem dX1_measure_125 : decode cX1_measure 125 = .ok (.isub, 1) := by decide +kernel
theorem dX1_measure_126 : decode cX1_measure 126 = .ok (.i2l, 1) := by decide +kernel
theorem dX1_measure_127 : decode cX1_measure 127 = .ok (.aload_n 0, 1) := by decide +kernel
theorem dX1_measure_128 : decode cX1_measure 128 = .ok (.getfield 15, 3) := by decide +kernel
theorem dX1_measure_131 : decode cX1_measure 131 = .ok (.iload_n 2, 1) := by decide +kernel
theorem dX1_measure_132 : decode cX1_measure 132 = .ok (.laload, 1) := by decide +kernel
theorem dX1_measure_133 : decode cX1_measure 133 = .ok (.lmul, 1) := by decide +kernel
theorem dX1_measure_134 : decode cX1_measure 134 = .ok (.iload_n 3, 1) := by decide +kernel
theorem dX1_measure_135 : decode cX1_measure 135 = .ok (.i2l, 1) := by decide +kernel
theorem dX1_measure_136 : decode cX1_measure 136 = .ok (.ladd, 1) := by decide +kernel
theorem dX1_measure_137 : decode cX1_measure 137 = .ok (.iload 5, 2) := by decide +kernel
theorem dX1_measure_139 : decode cX1_measure 139 = .ok (.i2l, 1) := by decide +kernel
theorem dX1_measure_140 : decode cX1_measure 140 = .ok (.lsub, 1) := by decide +kernel
theorem dX1_measure_141 : decode cX1_measure 141 = .ok (.lastore, 1) := by decide +kernel
theorem dX1_measure_142 : decode cX1_measure 142 = .ok (.return_, 1) := by decide +kernel
theorem dX1_countBreaks_0 : decode cX1_countBreaks 0 = .ok (.iconst 0, 1) := by decide +kernel
theorem dX1_countBreaks_1 : decode cX1_countBreaks 1 = .ok (.istore 4, 2) := by decide +kernel
theorem dX1_countBreaks_3 : decode cX1_countBreaks 3 = .ok (.iload 4, 2) := by decide +kernel
theorem dX1_countBreaks_5 : decode cX1_countBreaks 5 = .ok (.aload_n 1, 1) := by decide +kernel
theorem dX1_countBreaks_6 : decode cX1_countBreaks 6 = .ok (.getfield 32, 3) := by decide +kernel
theorem dX1_countBreaks_9 : decode cX1_countBreaks 9 = .ok (.if_icmp .ge 17, 3) := by decide +kernel
theorem dX1_countBreaks_12 : decode cX1_countBreaks 12 = .ok (.aload_n 0, 1) := by decide +kernel
theorem dX1_countBreaks_13 : decode cX1_countBreaks 13 = .ok (.aload_n 1, 1) := by decide +kernel
theorem dX1_countBreaks_14 : decode cX1_countBreaks 14 = .ok (.iload 4, 2) := by decide +kernel
theorem dX1_countBreaks_16 : decode cX1_countBreaks 16 = .ok (.iload_n 2, 1) := by decide +kernel
theorem dX1_countBreaks_17 : decode cX1_countBreaks 17 = .ok (.invokevirtual 35, 3) := by decide +kernel
theorem dX1_countBreaks_20 : decode cX1_countBreaks 20 = .ok (.iinc 4 1, 3) := by decide +kernel
theorem dX1_countBreaks_23 : decode cX1_countBreaks 23 = .ok (.goto (-20), 3) := by decide +kernel
theorem dX1_countBreaks_26 : decode cX1_countBreaks 26 = .ok (.iconst 0, 1) := by decide +kernel
theorem dX1_countBreaks_27 : decode cX1_countBreaks 27 = .ok (.istore 4, 2) := by decide +kernel
theorem dX1_countBreaks_29 : decode cX1_countBreaks 29 = .ok (.iconst 0, 1) := by decide +kernel
theorem dX1_countBreaks_30 : decode cX1_countBreaks 30 = .ok (.istore 5, 2) := by decide +kernel
theorem dX1_countBreaks_32 : decode cX1_countBreaks 32 = .ok (.iload 5, 2) := by decide +kernel
theorem dX1_countBreaks_34 : decode cX1_countBreaks 34 = .ok (.aload_n 1, 1) := by decide +kernel
theorem dX1_countBreaks_35 : decode cX1_countBreaks 35 = .ok (.getfield 32, 3) := by decide +kernel
theorem dX1_countBreaks_38 : decode cX1_countBreaks 38 = .ok (.iconst 3, 1) := by decide +kernel
theorem dX1_countBreaks_39 : decode cX1_countBreaks 39 = .ok (.isub, 1) := by decide +kernel
theorem dX1_countBreaks_40 : decode cX1_countBreaks 40 = .ok (.if_icmp .ge 22, 3) := by decide +kernel
theorem dX1_countBreaks_43 : decode cX1_countBreaks 43 = .ok (.aload_n 0, 1) := by decide +kernel
theorem dX1_countBreaks_44 : decode cX1_countBreaks 44 = .ok (.iload 5, 2) := by decide +kernel
theorem dX1_countBreaks_46 : decode cX1_countBreaks 46 = .ok (.iload_n 3, 1) := by decide +kernel
theorem dX1_countBreaks_47 : decode cX1_countBreaks 47 = .ok (.invokevirtual 39, 3) := by decide +kernel
theorem dX1_countBreaks_50 : decode cX1_countBreaks 50 = .ok (.ifCond .eq 6, 3) := by decide +kernel
theorem dX1_countBreaks_53 : decode cX1_countBreaks 53 = .ok (.iinc 4 1, 3) := by decide +kernel
theorem dX1_countBreaks_56 : decode cX1_countBreaks 56 = .ok (.iinc 5 1, 3) := by decide +kernel
theorem dX1_countBreaks_59 : decode cX1_countBreaks 59 = .ok (.goto (-27), 3) := by decide +kernel
theorem dX1_countBreaks_62 : decode cX1_countBreaks 62 = .ok (.iload 4, 2) := by decide +kernel
theorem dX1_countBreaks_64 : decode cX1_countBreaks 64 = .ok (.ireturn, 1) := by decide +kernel
theorem dX1_isBreak_0 : decode cX1_isBreak 0 = .ok (.aload_n 0, 1) := by decide +kernel
theorem dX1_isBreak_1 : decode cX1_isBreak 1 = .ok (.iload_n 1, 1) := by decide +kernel
theorem dX1_isBreak_2 : decode cX1_isBreak 2 = .ok (.invokevirtual 43, 3) := by decide +kernel
theorem dX1_isBreak_5 : decode cX1_isBreak 5 = .ok (.ifCond .eq 33, 3) := by decide +kernel
theorem dX1_isBreak_8 : decode cX1_isBreak 8 = .ok (.aload_n 0, 1) := by decide +kernel
theorem dX1_isBreak_9 : decode cX1_isBreak 9 = .ok (.iload_n 1, 1) := by decide +kernel
theorem dX1_isBreak_10 : decode cX1_isBreak 10 = .ok (.iconst 1, 1) := by decide +kernel
theorem dX1_isBreak_11 : decode cX1_isBreak 11 = .ok (.iadd, 1) := by decide +kernel
theorem dX1_isBreak_12 : decode cX1_isBreak 12 = .ok (.invokevirtual 43, 3) := by decide +kernel
theorem dX1_isBreak_15 : decode cX1_isBreak 15 = .ok (.ifCond .eq 23, 3) := by decide +kernel
theorem dX1_isBreak_18 : decode cX1_isBreak 18 = .ok (.aload_n 0, 1) := by decide +kernel
theorem dX1_isBreak_19 : decode cX1_isBreak 19 = .ok (.iload_n 1, 1) := by decide +kernel
theorem dX1_isBreak_20 : decode cX1_isBreak 20 = .ok (.iconst 2, 1) := by decide +kernel
theorem dX1_isBreak_21 : decode cX1_isBreak 21 = .ok (.iadd, 1) := by decide +kernel
theorem dX1_isBreak_22 : decode cX1_isBreak 22 = .ok (.invokevirtual 43, 3) := by decide +kernel
theorem dX1_isBreak_25 : decode cX1_isBreak 25 = .ok (.ifCond .eq 13, 3) := by decide +kernel
theorem dX1_isBreak_28 : decode cX1_isBreak 28 = .ok (.aload_n 0, 1) := by decide +kernel
theorem dX1_isBreak_29 : decode cX1_isBreak 29 = .ok (.iload_n 1, 1) := by decide +kernel
theorem dX1_isBreak_30 : decode cX1_isBreak 30 = .ok (.iconst 3, 1) := by decide +kernel
theorem dX1_isBreak_31 : decode cX1_isBreak 31 = .ok (.iadd, 1) := by decide +kernel
theorem dX1_isBreak_32 : decode cX1_isBreak 32 = .ok (.invokevirtual 43, 3) := by decide +kernel
theorem dX1_isBreak_35 : decode cX1_isBreak 35 = .ok (.ifCond .ne 5, 3) := by decide +kernel
theorem dX1_isBreak_38 : decode cX1_isBreak 38 = .ok (.iconst 0, 1) := by decide +kernel
theorem dX1_isBreak_39 : decode cX1_isBreak 39 = .ok (.ireturn, 1) := by decide +kernel
theorem dX1_isBreak_40 : decode cX1_isBreak 40 = .ok (.aload_n 0, 1) := by decide +kernel
theorem dX1_isBreak_41 : decode cX1_isBreak 41 = .ok (.getfield 15, 3) := by decide +kernel
theorem dX1_isBreak_44 : decode cX1_isBreak 44 = .ok (.iload_n 1, 1) := by decide +kernel
theorem dX1_isBreak_45 : decode cX1_isBreak 45 = .ok (.laload, 1) := by decide +kernel
theorem dX1_isBreak_46 : decode cX1_isBreak 46 = .ok (.aload_n 0, 1) := by decide +kernel
theorem dX1_isBreak_47 : decode cX1_isBreak 47 = .ok (.getfield 15, 3) := by decide +kernel
theorem dX1_isBreak_50 : decode cX1_isBreak 50 = .ok (.iload_n 1, 1) := by decide +kernel
theorem dX1_isBreak_51 : decode cX1_isBreak 51 = .ok (.iconst 1, 1) := by decide +kernel
theorem dX1_isBreak_52 : decode cX1_isBreak 52 = .ok (.iadd, 1) := by decide +kernel
theorem dX1_isBreak_53 : decode cX1_isBreak 53 = .ok (.laload, 1) := by decide +kernel
theorem dX1_isBreak_54 : decode cX1_isBreak 54 = .ok (.lmul, 1) := by decide +kernel
theorem dX1_isBreak_55 : decode cX1_isBreak 55 = .ok (.lstore_n 3, 1) := by decide +kernel
theorem dX1_isBreak_56 : decode cX1_isBreak 56 = .ok (.aload_n 0, 1) := by decide +kernel
theorem dX1_isBreak_57 : decode cX1_isBreak 57 = .ok (.getfield 15, 3) := by decide +kernel
theorem dX1_isBreak_60 : decode cX1_isBreak 60 = .ok (.iload_n 1, 1) := by decide +kernel
theorem dX1_isBreak_61 : decode cX1_isBreak 61 = .ok (.iconst 2, 1) := by decide +kernel
theorem dX1_isBreak_62 : decode cX1_isBreak 62 = .ok (.iadd, 1) := by decide +kernel
theorem dX1_isBreak_63 : decode cX1_isBreak 63 = .ok (.laload, 1) := by decide +kernel
theorem dX1_isBreak_64 : decode cX1_isBreak 64 = .ok (.aload_n 0, 1) := by decide +kernel
theorem dX1_isBreak_65 : decode cX1_isBreak 65 = .ok (.getfield 15, 3) := by decide +kernel
theorem dX1_isBreak_68 : decode cX1_isBreak 68 = .ok (.iload_n 1, 1) := by decide +kernel
theorem dX1_isBreak_69 : decode cX1_isBreak 69 = .ok (.iconst 3, 1) := by decide +kernel
theorem dX1_isBreak_70 : decode cX1_isBreak 70 = .ok (.iadd, 1) := by decide +kernel
theorem dX1_isBreak_71 : decode cX1_isBreak 71 = .ok (.laload, 1) := by decide +kernel
theorem dX1_isBreak_72 : decode cX1_isBreak 72 = .ok (.lmul, 1) := by decide +kernel
theorem dX1_isBreak_73 : decode cX1_isBreak 73 = .ok (.lstore 5, 2) := by decide +kernel
theorem dX1_isBreak_75 : decode cX1_isBreak 75 = .ok (.ldc2_w 47, 3) := by decide +kernel
theorem dX1_isBreak_78 : decode cX1_isBreak 78 = .ok (.aload_n 0, 1) := by decide +kernel
theorem dX1_isBreak_79 : decode cX1_isBreak 79 = .ok (.getfield 9, 3) := by decide +kernel
theorem dX1_isBreak_82 : decode cX1_isBreak 82 = .ok (.iload_n 1, 1) := by decide +kernel
theorem dX1_isBreak_83 : decode cX1_isBreak 83 = .ok (.iconst 1, 1) := by decide +kernel
theorem dX1_isBreak_84 : decode cX1_isBreak 84 = .ok (.iadd, 1) := by decide +kernel
theorem dX1_isBreak_85 : decode cX1_isBreak 85 = .ok (.laload, 1) := by decide +kernel
theorem dX1_isBreak_86 : decode cX1_isBreak 86 = .ok (.lmul, 1) := by decide +kernel
theorem dX1_isBreak_87 : decode cX1_isBreak 87 = .ok (.aload_n 0, 1) := by decide +kernel
theorem dX1_isBreak_88 : decode cX1_isBreak 88 = .ok (.getfield 15, 3) := by decide +kernel
theorem dX1_isBreak_91 : decode cX1_isBreak 91 = .ok (.iload_n 1, 1) := by decide +kernel
theorem dX1_isBreak_92 : decode cX1_isBreak 92 = .ok (.laload, 1) := by decide +kernel
theorem dX1_isBreak_93 : decode cX1_isBreak 93 = .ok (.lmul, 1) := by decide +kernel
theorem dX1_isBreak_94 : decode cX1_isBreak 94 = .ok (.aload_n 0, 1) := by decide +kernel
theorem dX1_isBreak_95 : decode cX1_isBreak 95 = .ok (.getfield 9, 3) := by decide +kernel
theorem dX1_isBreak_98 : decode cX1_isBreak 98 = .ok (.iload_n 1, 1) := by decide +kernel
theorem dX1_isBreak_99 : decode cX1_isBreak 99 = .ok (.laload, 1) := by decide +kernel
theorem dX1_isBreak_100 : decode cX1_isBreak 100 = .ok (.aload_n 0, 1) := by decide +kernel
theorem dX1_isBreak_101 : decode cX1_isBreak 101 = .ok (.getfield 15, 3) := by decide +kernel
theorem dX1_isBreak_104 : decode cX1_isBreak 104 = .ok (.iload_n 1, 1) := by decide +kernel
theorem dX1_isBreak_105 : decode cX1_isBreak 105 = .ok (.iconst 1, 1) := by decide +kernel
theorem dX1_isBreak_106 : decode cX1_isBreak 106 = .ok (.iadd, 1) := by decide +kernel
theorem dX1_isBreak_107 : decode cX1_isBreak 107 = .ok (.laload, 1) := by decide +kernel
theorem dX1_isBreak_108 : decode cX1_isBreak 108 = .ok (.lmul, 1) := by decide +kernel
theorem dX1_isBreak_109 : decode cX1_isBreak 109 = .ok (.lsub, 1) := by decide +kernel
theorem dX1_isBreak_110 : decode cX1_isBreak 110 = .ok (.lload 5, 2) := by decide +kernel
theorem dX1_isBreak_112 : decode cX1_isBreak 112 = .ok (.lmul, 1) := by decide +kernel
theorem dX1_isBreak_113 : decode cX1_isBreak 113 = .ok (.lstore 7, 2) := by decide +kernel
theorem dX1_isBreak_115 : decode cX1_isBreak 115 = .ok (.aload_n 0, 1) := by decide +kernel
theorem dX1_isBreak_116 : decode cX1_isBreak 116 = .ok (.getfield 9, 3) := by decide +kernel
theorem dX1_isBreak_119 : decode cX1_isBreak 119 = .ok (.iload_n 1, 1) := by decide +kernel
theorem dX1_isBreak_120 : decode cX1_isBreak 120 = .ok (.iconst 3, 1) := by decide +kernel
theorem dX1_isBreak_121 : decode cX1_isBreak 121 = .ok (.iadd, 1) := by decide +kernel
theorem dX1_isBreak_122 : decode cX1_isBreak 122 = .ok (.laload, 1) := by decide +kernel
theorem dX1_isBreak_123 : decode cX1_isBreak 123 = .ok (.aload_n 0, 1) := by decide +kernel
theorem dX1_isBreak_124 : decode cX1_isBreak 124 = .ok (.getfield 15, 3) := by decide +kernel
theorem dX1_isBreak_127 : decode cX1_isBreak 127 = .ok (.iload_n 1, 1) := by decide +kernel
theorem dX1_isBreak_128 : decode cX1_isBreak 128 = .ok (.iconst 2, 1) := by decide +kernel
theorem dX1_isBreak_129 : decode cX1_isBreak 129 = .ok (.iadd, 1) := by decide +kernel
theorem dX1_isBreak_130 : decode cX1_isBreak 130 = .ok (.laload, 1) := by decide +kernel
theorem dX1_isBreak_131 : decode cX1_isBreak 131 = .ok (.lmul, 1) := by decide +kernel
theorem dX1_isBreak_132 : decode cX1_isBreak 132 = .ok (.ldc2_w 47, 3) := by decide +kernel
theorem dX1_isBreak_135 : decode cX1_isBreak 135 = .ok (.aload_n 0, 1) := by decide +kernel
theorem dX1_isBreak_136 : decode cX1_isBreak 136 = .ok (.getfield 9, 3) := by decide +kernel
theorem dX1_isBreak_139 : decode cX1_isBreak 139 = .ok (.iload_n 1, 1) := by decide +kernel
theorem dX1_isBreak_140 : decode cX1_isBreak 140 = .ok (.iconst 2, 1) := by decide +kernel
theorem dX1_isBreak_141 : decode cX1_isBreak 141 = .ok (.iadd, 1) := by decide +kernel
theorem dX1_isBreak_142 : decode cX1_isBreak 142 = .ok (.laload, 1) := by decide +kernel
theorem dX1_isBreak_143 : decode cX1_isBreak 143 = .ok (.lmul, 1) := by decide +kernel
theorem dX1_isBreak_144 : decode cX1_isBreak 144 = .ok (.aload_n 0, 1) := by decide +kernel
theorem dX1_isBreak_145 : decode cX1_isBreak 145 = .ok (.getfield 15, 3) := by decide +kernel
theorem dX1_isBreak_148 : decode cX1_isBreak 148 = .ok (.iload_n 1, 1) := by decide +kernel
theorem dX1_isBreak_149 : decode cX1_isBreak 149 = .ok (.iconst 3, 1) := by decide +kernel
theorem dX1_isBreak_150 : decode cX1_isBreak 150 = .ok (.iadd, 1) := by decide +kernel
theorem dX1_isBreak_151 : decode cX1_isBreak 151 = .ok (.laload, 1) := by decide +kernel
theorem dX1_isBreak_152 : decode cX1_isBreak 152 = .ok (.lmul, 1) := by decide +kernel
theorem dX1_isBreak_153 : decode cX1_isBreak 153 = .ok (.lsub, 1) := by decide +kernel
theorem dX1_isBreak_154 : decode cX1_isBreak 154 = .ok (.lload_n 3, 1) := by decide +kernel
theorem dX1_isBreak_155 : decode cX1_isBreak 155 = .ok (.lmul, 1) := by decide +kernel
theorem dX1_isBreak_156 : decode cX1_isBreak 156 = .ok (.lstore 9, 2) := by decide +kernel
theorem dX1_isBreak_158 : decode cX1_isBreak 158 = .ok (.ldc2_w 49, 3) := by decide +kernel
theorem dX1_isBreak_161 : decode cX1_isBreak 161 = .ok (.lload 7, 2) := by decide +kernel
theorem dX1_isBreak_163 : decode cX1_isBreak 163 = .ok (.lload 9, 2) := by decide +kernel
theorem dX1_isBreak_165 : decode cX1_isBreak 165 = .ok (.ladd, 1) := by decide +kernel
theorem dX1_isBreak_166 : decode cX1_isBreak 166 = .ok (.invokestatic 51, 3) := by decide +kernel
theorem dX1_isBreak_169 : decode cX1_isBreak 169 = .ok (.lmul, 1) := by decide +kernel
theorem dX1_isBreak_170 : decode cX1_isBreak 170 = .ok (.iload_n 2, 1) := by decide +kernel
theorem dX1_isBreak_171 : decode cX1_isBreak 171 = .ok (.i2l, 1) := by decide +kernel
theorem dX1_isBreak_172 : decode cX1_isBreak 172 = .ok (.lload_n 3, 1) := by decide +kernel
theorem dX1_isBreak_173 : decode cX1_isBreak 173 = .ok (.lmul, 1) := by decide +kernel
theorem dX1_isBreak_174 : decode cX1_isBreak 174 = .ok (.lload 5, 2) := by decide +kernel
theorem dX1_isBreak_176 : decode cX1_isBreak 176 = .ok (.lmul, 1) := by decide +kernel
theorem dX1_isBreak_177 : decode cX1_isBreak 177 = .ok (.lcmp, 1) := by decide +kernel
theorem dX1_isBreak_178 : decode cX1_isBreak 178 = .ok (.ifCond .le 7, 3) := by decide +kernel
theorem dX1_isBreak_181 : decode cX1_isBreak 181 = .ok (.iconst 1, 1) := by decide +kernel
theorem dX1_isBreak_182 : decode cX1_isBreak 182 = .ok (.goto 4, 3) := by decide +kernel
theorem dX1_isBreak_185 : decode cX1_isBreak 185 = .ok (.iconst 0, 1) := by decide +kernel
theorem dX1_isBreak_186 : decode cX1_isBreak 186 = .ok (.ireturn, 1) := by decide +kernel
