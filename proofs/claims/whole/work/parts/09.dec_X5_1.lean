theorem dX5_triple_13 : decode cX5_triple 13 = .ok (.iload_n 2, 1) := by decide +kernel
theorem dX5_triple_14 : decode cX5_triple 14 = .ok (.iadd, 1) := by decide +kernel
theorem dX5_triple_15 : decode cX5_triple 15 = .ok (.iconst 3, 1) := by decide +kernel
theorem dX5_triple_16 : decode cX5_triple 16 = .ok (.iadd, 1) := by decide +kernel
theorem dX5_triple_17 : decode cX5_triple 17 = .ok (.ireturn, 1) := by decide +kernel
theorem dX5_isFair_0 : decode cX5_isFair 0 = .ok (.aload_n 0, 1) := by decide +kernel
theorem dX5_isFair_1 : decode cX5_isFair 1 = .ok (.getfield 36, 3) := by decide +kernel
theorem dX5_isFair_4 : decode cX5_isFair 4 = .ok (.iload_n 1, 1) := by decide +kernel
theorem dX5_isFair_5 : decode cX5_isFair 5 = .ok (.iconst 3, 1) := by decide +kernel
theorem dX5_isFair_6 : decode cX5_isFair 6 = .ok (.iadd, 1) := by decide +kernel
theorem dX5_isFair_7 : decode cX5_isFair 7 = .ok (.iaload, 1) := by decide +kernel
theorem dX5_isFair_8 : decode cX5_isFair 8 = .ok (.iload 5, 2) := by decide +kernel
theorem dX5_isFair_10 : decode cX5_isFair 10 = .ok (.iadd, 1) := by decide +kernel
theorem dX5_isFair_11 : decode cX5_isFair 11 = .ok (.iconst 3, 1) := by decide +kernel
theorem dX5_isFair_12 : decode cX5_isFair 12 = .ok (.aload_n 0, 1) := by decide +kernel
theorem dX5_isFair_13 : decode cX5_isFair 13 = .ok (.getfield 36, 3) := by decide +kernel
theorem dX5_isFair_16 : decode cX5_isFair 16 = .ok (.iload_n 1, 1) := by decide +kernel
theorem dX5_isFair_17 : decode cX5_isFair 17 = .ok (.iconst 2, 1) := by decide +kernel
theorem dX5_isFair_18 : decode cX5_isFair 18 = .ok (.iadd, 1) := by decide +kernel
theorem dX5_isFair_19 : decode cX5_isFair 19 = .ok (.iaload, 1) := by decide +kernel
theorem dX5_isFair_20 : decode cX5_isFair 20 = .ok (.iload 4, 2) := by decide +kernel
theorem dX5_isFair_22 : decode cX5_isFair 22 = .ok (.iadd, 1) := by decide +kernel
theorem dX5_isFair_23 : decode cX5_isFair 23 = .ok (.imul, 1) := by decide +kernel
theorem dX5_isFair_24 : decode cX5_isFair 24 = .ok (.isub, 1) := by decide +kernel
theorem dX5_isFair_25 : decode cX5_isFair 25 = .ok (.iconst 3, 1) := by decide +kernel
theorem dX5_isFair_26 : decode cX5_isFair 26 = .ok (.aload_n 0, 1) := by decide +kernel
theorem dX5_isFair_27 : decode cX5_isFair 27 = .ok (.getfield 36, 3) := by decide +kernel
theorem dX5_isFair_30 : decode cX5_isFair 30 = .ok (.iload_n 1, 1) := by decide +kernel
theorem dX5_isFair_31 : decode cX5_isFair 31 = .ok (.iconst 1, 1) := by decide +kernel
theorem dX5_isFair_32 : decode cX5_isFair 32 = .ok (.iadd, 1) := by decide +kernel
theorem dX5_isFair_33 : decode cX5_isFair 33 = .ok (.iaload, 1) := by decide +kernel
theorem dX5_isFair_34 : decode cX5_isFair 34 = .ok (.iload_n 3, 1) := by decide +kernel
theorem dX5_isFair_35 : decode cX5_isFair 35 = .ok (.iadd, 1) := by decide +kernel
theorem dX5_isFair_36 : decode cX5_isFair 36 = .ok (.imul, 1) := by decide +kernel
theorem dX5_isFair_37 : decode cX5_isFair 37 = .ok (.iadd, 1) := by decide +kernel
theorem dX5_isFair_38 : decode cX5_isFair 38 = .ok (.aload_n 0, 1) := by decide +kernel
theorem dX5_isFair_39 : decode cX5_isFair 39 = .ok (.getfield 36, 3) := by decide +kernel
theorem dX5_isFair_42 : decode cX5_isFair 42 = .ok (.iload_n 1, 1) := by decide +kernel
theorem dX5_isFair_43 : decode cX5_isFair 43 = .ok (.iaload, 1) := by decide +kernel
theorem dX5_isFair_44 : decode cX5_isFair 44 = .ok (.isub, 1) := by decide +kernel
theorem dX5_isFair_45 : decode cX5_isFair 45 = .ok (.iload_n 2, 1) := by decide +kernel
theorem dX5_isFair_46 : decode cX5_isFair 46 = .ok (.isub, 1) := by decide +kernel
theorem dX5_isFair_47 : decode cX5_isFair 47 = .ok (.istore 6, 2) := by decide +kernel
theorem dX5_isFair_49 : decode cX5_isFair 49 = .ok (.iload 6, 2) := by decide +kernel
theorem dX5_isFair_51 : decode cX5_isFair 51 = .ok (.invokestatic 120, 3) := by decide +kernel
theorem dX5_isFair_54 : decode cX5_isFair 54 = .ok (.aload_n 0, 1) := by decide +kernel
theorem dX5_isFair_55 : decode cX5_isFair 55 = .ok (.getfield 7, 3) := by decide +kernel
theorem dX5_isFair_58 : decode cX5_isFair 58 = .ok (.if_icmp .gt 7, 3) := by decide +kernel
theorem dX5_isFair_61 : decode cX5_isFair 61 = .ok (.iconst 1, 1) := by decide +kernel
theorem dX5_isFair_62 : decode cX5_isFair 62 = .ok (.goto 4, 3) := by decide +kernel
theorem dX5_isFair_65 : decode cX5_isFair 65 = .ok (.iconst 0, 1) := by decide +kernel
theorem dX5_isFair_66 : decode cX5_isFair 66 = .ok (.ireturn, 1) := by decide +kernel
theorem dX5_needFrom_0 : decode cX5_needFrom 0 = .ok (.ldc 127, 2) := by decide +kernel
theorem dX5_needFrom_2 : decode cX5_needFrom 2 = .ok (.istore 5, 2) := by decide +kernel
theorem dX5_needFrom_4 : decode cX5_needFrom 4 = .ok (.aload_n 0, 1) := by decide +kernel
theorem dX5_needFrom_5 : decode cX5_needFrom 5 = .ok (.getfield 13, 3) := by decide +kernel
theorem dX5_needFrom_8 : decode cX5_needFrom 8 = .ok (.ineg, 1) := by decide +kernel
theorem dX5_needFrom_9 : decode cX5_needFrom 9 = .ok (.istore 6, 2) := by decide +kernel
theorem dX5_needFrom_11 : decode cX5_needFrom 11 = .ok (.iload 6, 2) := by decide +kernel
theorem dX5_needFrom_13 : decode cX5_needFrom 13 = .ok (.aload_n 0, 1) := by decide +kernel
theorem dX5_needFrom_14 : decode cX5_needFrom 14 = .ok (.getfield 13, 3) := by decide +kernel
theorem dX5_needFrom_17 : decode cX5_needFrom 17 = .ok (.if_icmp .gt 80, 3) := by decide +kernel
theorem dX5_needFrom_20 : decode cX5_needFrom 20 = .ok (.aload_n 0, 1) := by decide +kernel
theorem dX5_needFrom_21 : decode cX5_needFrom 21 = .ok (.iload_n 1, 1) := by decide +kernel
theorem dX5_needFrom_22 : decode cX5_needFrom 22 = .ok (.iconst 3, 1) := by decide +kernel
theorem dX5_needFrom_23 : decode cX5_needFrom 23 = .ok (.iadd, 1) := by decide +kernel
theorem dX5_needFrom_24 : decode cX5_needFrom 24 = .ok (.iload 6, 2) := by decide +kernel
theorem dX5_needFrom_26 : decode cX5_needFrom 26 = .ok (.invokevirtual 128, 3) := by decide +kernel
theorem dX5_needFrom_29 : decode cX5_needFrom 29 = .ok (.ifCond .eq 62, 3) := by decide +kernel
theorem dX5_needFrom_32 : decode cX5_needFrom 32 = .ok (.aload_n 0, 1) := by decide +kernel
theorem dX5_needFrom_33 : decode cX5_needFrom 33 = .ok (.iload_n 1, 1) := by decide +kernel
theorem dX5_needFrom_34 : decode cX5_needFrom 34 = .ok (.iload_n 2, 1) := by decide +kernel
theorem dX5_needFrom_35 : decode cX5_needFrom 35 = .ok (.iload_n 3, 1) := by decide +kernel
theorem dX5_needFrom_36 : decode cX5_needFrom 36 = .ok (.iload 4, 2) := by decide +kernel
theorem dX5_needFrom_38 : decode cX5_needFrom 38 = .ok (.iload 6, 2) := by decide +kernel
theorem dX5_needFrom_40 : decode cX5_needFrom 40 = .ok (.invokevirtual 131, 3) := by decide +kernel
theorem dX5_needFrom_43 : decode cX5_needFrom 43 = .ok (.ifCond .eq 48, 3) := by decide +kernel
theorem dX5_needFrom_46 : decode cX5_needFrom 46 = .ok (.iload 6, 2) := by decide +kernel
theorem dX5_needFrom_48 : decode cX5_needFrom 48 = .ok (.invokestatic 120, 3) := by decide +kernel
theorem dX5_needFrom_51 : decode cX5_needFrom 51 = .ok (.aload_n 0, 1) := by decide +kernel
theorem dX5_needFrom_52 : decode cX5_needFrom 52 = .ok (.getfield 39, 3) := by decide +kernel
theorem dX5_needFrom_55 : decode cX5_needFrom 55 = .ok (.sipush 343, 3) := by decide +kernel
theorem dX5_needFrom_58 : decode cX5_needFrom 58 = .ok (.iload_n 1, 1) := by decide +kernel
theorem dX5_needFrom_59 : decode cX5_needFrom 59 = .ok (.iconst 1, 1) := by decide +kernel
theorem dX5_needFrom_60 : decode cX5_needFrom 60 = .ok (.iadd, 1) := by decide +kernel
theorem dX5_needFrom_61 : decode cX5_needFrom 61 = .ok (.imul, 1) := by decide +kernel
theorem dX5_needFrom_62 : decode cX5_needFrom 62 = .ok (.iload_n 3, 1) := by decide +kernel
theorem dX5_needFrom_63 : decode cX5_needFrom 63 = .ok (.iload 4, 2) := by decide +kernel
theorem dX5_needFrom_65 : decode cX5_needFrom 65 = .ok (.iload 6, 2) := by decide +kernel
theorem dX5_needFrom_67 : decode cX5_needFrom 67 = .ok (.invokestatic 135, 3) := by decide +kernel
theorem dX5_needFrom_70 : decode cX5_needFrom 70 = .ok (.iadd, 1) := by decide +kernel
theorem dX5_needFrom_71 : decode cX5_needFrom 71 = .ok (.iaload, 1) := by decide +kernel
theorem dX5_needFrom_72 : decode cX5_needFrom 72 = .ok (.iadd, 1) := by decide +kernel
theorem dX5_needFrom_73 : decode cX5_needFrom 73 = .ok (.istore 7, 2) := by decide +kernel
theorem dX5_needFrom_75 : decode cX5_needFrom 75 = .ok (.iload 7, 2) := by decide +kernel
theorem dX5_needFrom_77 : decode cX5_needFrom 77 = .ok (.iload 5, 2) := by decide +kernel
theorem dX5_needFrom_79 : decode cX5_needFrom 79 = .ok (.if_icmp .ge 8, 3) := by decide +kernel
theorem dX5_needFrom_82 : decode cX5_needFrom 82 = .ok (.iload 7, 2) := by decide +kernel
theorem dX5_needFrom_84 : decode cX5_needFrom 84 = .ok (.goto 5, 3) := by decide +kernel
theorem dX5_needFrom_87 : decode cX5_needFrom 87 = .ok (.iload 5, 2) := by decide +kernel
theorem dX5_needFrom_89 : decode cX5_needFrom 89 = .ok (.istore 5, 2) := by decide +kernel
theorem dX5_needFrom_91 : decode cX5_needFrom 91 = .ok (.iinc 6 1, 3) := by decide +kernel
theorem dX5_needFrom_94 : decode cX5_needFrom 94 = .ok (.goto (-83), 3) := by decide +kernel
theorem dX5_needFrom_97 : decode cX5_needFrom 97 = .ok (.iload 5, 2) := by decide +kernel
theorem dX5_needFrom_99 : decode cX5_needFrom 99 = .ok (.ireturn, 1) := by decide +kernel
theorem dX5_findNeeds_0 : decode cX5_findNeeds 0 = .ok (.aload_n 0, 1) := by decide +kernel
theorem dX5_findNeeds_1 : decode cX5_findNeeds 1 = .ok (.getfield 97, 3) := by decide +kernel
theorem dX5_findNeeds_4 : decode cX5_findNeeds 4 = .ok (.iconst 3, 1) := by decide +kernel
theorem dX5_findNeeds_5 : decode cX5_findNeeds 5 = .ok (.isub, 1) := by decide +kernel
theorem dX5_findNeeds_6 : decode cX5_findNeeds 6 = .ok (.istore_n 1, 1) := by decide +kernel
theorem dX5_findNeeds_7 : decode cX5_findNeeds 7 = .ok (.iload_n 1, 1) := by decide +kernel
theorem dX5_findNeeds_8 : decode cX5_findNeeds 8 = .ok (.ifCond .lt 136, 3) := by decide +kernel
theorem dX5_findNeeds_11 : decode cX5_findNeeds 11 = .ok (.iconst 0, 1) := by decide +kernel
theorem dX5_findNeeds_12 : decode cX5_findNeeds 12 = .ok (.istore_n 2, 1) := by decide +kernel
theorem dX5_findNeeds_13 : decode cX5_findNeeds 13 = .ok (.iload_n 2, 1) := by decide +kernel
theorem dX5_findNeeds_14 : decode cX5_findNeeds 14 = .ok (.sipush 343, 3) := by decide +kernel
theorem dX5_findNeeds_17 : decode cX5_findNeeds 17 = .ok (.if_icmp .ge 121, 3) := by decide +kernel
theorem dX5_findNeeds_20 : decode cX5_findNeeds 20 = .ok (.iload_n 2, 1) := by decide +kernel
theorem dX5_findNeeds_21 : decode cX5_findNeeds 21 = .ok (.bipush 49, 2) := by decide +kernel
theorem dX5_findNeeds_23 : decode cX5_findNeeds 23 = .ok (.idiv, 1) := by decide +kernel
theorem dX5_findNeeds_24 : decode cX5_findNeeds 24 = .ok (.iconst 3, 1) := by decide +kernel
theorem dX5_findNeeds_25 : decode cX5_findNeeds 25 = .ok (.isub, 1) := by decide +kernel
theorem dX5_findNeeds_26 : decode cX5_findNeeds 26 = .ok (.istore_n 3, 1) := by decide +kernel
theorem dX5_findNeeds_27 : decode cX5_findNeeds 27 = .ok (.iload_n 2, 1) := by decide +kernel
theorem dX5_findNeeds_28 : decode cX5_findNeeds 28 = .ok (.bipush 7, 2) := by decide +kernel
theorem dX5_findNeeds_30 : decode cX5_findNeeds 30 = .ok (.idiv, 1) := by decide +kernel
theorem dX5_findNeeds_31 : decode cX5_findNeeds 31 = .ok (.bipush 7, 2) := by decide +kernel
theorem dX5_findNeeds_33 : decode cX5_findNeeds 33 = .ok (.irem, 1) := by decide +kernel
theorem dX5_findNeeds_34 : decode cX5_findNeeds 34 = .ok (.iconst 3, 1) := by decide +kernel
theorem dX5_findNeeds_35 : decode cX5_findNeeds 35 = .ok (.isub, 1) := by decide +kernel
theorem dX5_findNeeds_36 : decode cX5_findNeeds 36 = .ok (.istore 4, 2) := by decide +kernel
theorem dX5_findNeeds_38 : decode cX5_findNeeds 38 = .ok (.iload_n 2, 1) := by decide +kernel
theorem dX5_findNeeds_39 : decode cX5_findNeeds 39 = .ok (.bipush 7, 2) := by decide +kernel
theorem dX5_findNeeds_41 : decode cX5_findNeeds 41 = .ok (.irem, 1) := by decide +kernel
theorem dX5_findNeeds_42 : decode cX5_findNeeds 42 = .ok (.iconst 3, 1) := by decide +kernel
theorem dX5_findNeeds_43 : decode cX5_findNeeds 43 = .ok (.isub, 1) := by decide +kernel
theorem dX5_findNeeds_44 : decode cX5_findNeeds 44 = .ok (.istore 5, 2) := by decide +kernel
theorem dX5_findNeeds_46 : decode cX5_findNeeds 46 = .ok (.aload_n 0, 1) := by decide +kernel
theorem dX5_findNeeds_47 : decode cX5_findNeeds 47 = .ok (.iload_n 1, 1) := by decide +kernel
theorem dX5_findNeeds_48 : decode cX5_findNeeds 48 = .ok (.iload_n 3, 1) := by decide +kernel
theorem dX5_findNeeds_49 : decode cX5_findNeeds 49 = .ok (.invokevirtual 128, 3) := by decide +kernel
theorem dX5_findNeeds_52 : decode cX5_findNeeds 52 = .ok (.ifCond .eq 31, 3) := by decide +kernel
theorem dX5_findNeeds_55 : decode cX5_findNeeds 55 = .ok (.aload_n 0, 1) := by decide +kernel
theorem dX5_findNeeds_56 : decode cX5_findNeeds 56 = .ok (.iload_n 1, 1) := by decide +kernel
theorem dX5_findNeeds_57 : decode cX5_findNeeds 57 = .ok (.iconst 1, 1) := by decide +kernel
theorem dX5_findNeeds_58 : decode cX5_findNeeds 58 = .ok (.iadd, 1) := by decide +kernel
theorem dX5_findNeeds_59 : decode cX5_findNeeds 59 = .ok (.iload 4, 2) := by decide +kernel
theorem dX5_findNeeds_61 : decode cX5_findNeeds 61 = .ok (.invokevirtual 128, 3) := by decide +kernel
theorem dX5_findNeeds_64 : decode cX5_findNeeds 64 = .ok (.ifCond .eq 19, 3) := by decide +kernel
theorem dX5_findNeeds_67 : decode cX5_findNeeds 67 = .ok (.aload_n 0, 1) := by decide +kernel
theorem dX5_findNeeds_68 : decode cX5_findNeeds 68 = .ok (.iload_n 1, 1) := by decide +kernel
theorem dX5_findNeeds_69 : decode cX5_findNeeds 69 = .ok (.iconst 2, 1) := by decide +kernel
theorem dX5_findNeeds_70 : decode cX5_findNeeds 70 = .ok (.iadd, 1) := by decide +kernel
theorem dX5_findNeeds_71 : decode cX5_findNeeds 71 = .ok (.iload 5, 2) := by decide +kernel
theorem dX5_findNeeds_73 : decode cX5_findNeeds 73 = .ok (.invokevirtual 128, 3) := by decide +kernel
theorem dX5_findNeeds_76 : decode cX5_findNeeds 76 = .ok (.ifCond .eq 7, 3) := by decide +kernel
theorem dX5_findNeeds_79 : decode cX5_findNeeds 79 = .ok (.iconst 1, 1) := by decide +kernel
theorem dX5_findNeeds_80 : decode cX5_findNeeds 80 = .ok (.goto 4, 3) := by decide +kernel
theorem dX5_findNeeds_83 : decode cX5_findNeeds 83 = .ok (.iconst 0, 1) := by decide +kernel
theorem dX5_findNeeds_84 : decode cX5_findNeeds 84 = .ok (.istore 6, 2) := by decide +kernel
theorem dX5_findNeeds_86 : decode cX5_findNeeds 86 = .ok (.aload_n 0, 1) := by decide +kernel
theorem dX5_findNeeds_87 : decode cX5_findNeeds 87 = .ok (.getfield 39, 3) := by decide +kernel
theorem dX5_findNeeds_90 : decode cX5_findNeeds 90 = .ok (.sipush 343, 3) := by decide +kernel
theorem dX5_findNeeds_93 : decode cX5_findNeeds 93 = .ok (.iload_n 1, 1) := by decide +kernel
theorem dX5_findNeeds_94 : decode cX5_findNeeds 94 = .ok (.imul, 1) := by decide +kernel
theorem dX5_findNeeds_95 : decode cX5_findNeeds 95 = .ok (.iload_n 2, 1) := by decide +kernel
theorem dX5_findNeeds_96 : decode cX5_findNeeds 96 = .ok (.iadd, 1) := by decide +kernel
theorem dX5_findNeeds_97 : decode cX5_findNeeds 97 = .ok (.iload 6, 2) := by decide +kernel
theorem dX5_findNeeds_99 : decode cX5_findNeeds 99 = .ok (.ifCond .ne 8, 3) := by decide +kernel
theorem dX5_findNeeds_102 : decode cX5_findNeeds 102 = .ok (.ldc 127, 2) := by decide +kernel
theorem dX5_findNeeds_104 : decode cX5_findNeeds 104 = .ok (.goto 27, 3) := by decide +kernel
theorem dX5_findNeeds_107 : decode cX5_findNeeds 107 = .ok (.iload_n 1, 1) := by decide +kernel
theorem dX5_findNeeds_108 : decode cX5_findNeeds 108 = .ok (.aload_n 0, 1) := by decide +kernel
theorem dX5_findNeeds_109 : decode cX5_findNeeds 109 = .ok (.getfield 97, 3) := by decide +kernel
theorem dX5_findNeeds_112 : decode cX5_findNeeds 112 = .ok (.iconst 3, 1) := by decide +kernel
theorem dX5_findNeeds_113 : decode cX5_findNeeds 113 = .ok (.isub, 1) := by decide +kernel
theorem dX5_findNeeds_114 : decode cX5_findNeeds 114 = .ok (.if_icmp .ne 7, 3) := by decide +kernel
theorem dX5_findNeeds_117 : decode cX5_findNeeds 117 = .ok (.iconst 0, 1) := by decide +kernel
theorem dX5_findNeeds_118 : decode cX5_findNeeds 118 = .ok (.goto 13, 3) := by decide +kernel
theorem dX5_findNeeds_121 : decode cX5_findNeeds 121 = .ok (.aload_n 0, 1) := by decide +kernel
theorem dX5_findNeeds_122 : decode cX5_findNeeds 122 = .ok (.iload_n 1, 1) := by decide +kernel
theorem dX5_findNeeds_123 : decode cX5_findNeeds 123 = .ok (.iload_n 3, 1) := by decide +kernel
theorem dX5_findNeeds_124 : decode cX5_findNeeds 124 = .ok (.iload 4, 2) := by decide +kernel
theorem dX5_findNeeds_126 : decode cX5_findNeeds 126 = .ok (.iload 5, 2) := by decide +kernel
theorem dX5_findNeeds_128 : decode cX5_findNeeds 128 = .ok (.invokevirtual 139, 3) := by decide +kernel
theorem dX5_findNeeds_131 : decode cX5_findNeeds 131 = .ok (.iastore, 1) := by decide +kernel
theorem dX5_findNeeds_132 : decode cX5_findNeeds 132 = .ok (.iinc 2 1, 3) := by decide +kernel
theorem dX5_findNeeds_135 : decode cX5_findNeeds 135 = .ok (.goto (-122), 3) := by decide +kernel
theorem dX5_findNeeds_138 : decode cX5_findNeeds 138 = .ok (.iinc 1 (-1), 3) := by decide +kernel
theorem dX5_findNeeds_141 : decode cX5_findNeeds 141 = .ok (.goto (-134), 3) := by decide +kernel
theorem dX5_findNeeds_144 : decode cX5_findNeeds 144 = .ok (.return_, 1) := by decide +kernel
theorem dX5_begins_0 : decode cX5_begins 0 = .ok (.ldc 127, 2) := by decide +kernel
theorem dX5_begins_2 : decode cX5_begins 2 = .ok (.istore_n 1, 1) := by decide +kernel
theorem dX5_begins_3 : decode cX5_begins 3 = .ok (.iconst 0, 1) := by decide +kernel
theorem dX5_begins_4 : decode cX5_begins 4 = .ok (.istore_n 2, 1) := by decide +kernel
theorem dX5_begins_5 : decode cX5_begins 5 = .ok (.iconst 0, 1) := by decide +kernel
theorem dX5_begins_6 : decode cX5_begins 6 = .ok (.istore_n 3, 1) := by decide +kernel
theorem dX5_begins_7 : decode cX5_begins 7 = .ok (.iload_n 3, 1) := by decide +kernel
theorem dX5_begins_8 : decode cX5_begins 8 = .ok (.sipush 343, 3) := by decide +kernel
theorem dX5_begins_11 : decode cX5_begins 11 = .ok (.if_icmp .ge 75, 3) := by decide +kernel
theorem dX5_begins_14 : decode cX5_begins 14 = .ok (.iload_n 3, 1) := by decide +kernel
theorem dX5_begins_15 : decode cX5_begins 15 = .ok (.bipush 49, 2) := by decide +kernel
theorem dX5_begins_17 : decode cX5_begins 17 = .ok (.idiv, 1) := by decide +kernel
theorem dX5_begins_18 : decode cX5_begins 18 = .ok (.iconst 3, 1) := by decide +kernel
theorem dX5_begins_19 : decode cX5_begins 19 = .ok (.isub, 1) := by decide +kernel
theorem dX5_begins_20 : decode cX5_begins 20 = .ok (.invokestatic 120, 3) := by decide +kernel
theorem dX5_begins_23 : decode cX5_begins 23 = .ok (.iload_n 3, 1) := by decide +kernel
theorem dX5_begins_24 : decode cX5_begins 24 = .ok (.bipush 7, 2) := by decide +kernel
theorem dX5_begins_26 : decode cX5_begins 26 = .ok (.idiv, 1) := by decide +kernel
theorem dX5_begins_27 : decode cX5_begins 27 = .ok (.bipush 7, 2) := by decide +kernel
theorem dX5_begins_29 : decode cX5_begins 29 = .ok (.irem, 1) := by decide +kernel
theorem dX5_begins_30 : decode cX5_begins 30 = .ok (.iconst 3, 1) := by decide +kernel
theorem dX5_begins_31 : decode cX5_begins 31 = .ok (.isub, 1) := by decide +kernel
theorem dX5_begins_32 : decode cX5_begins 32 = .ok (.invokestatic 120, 3) := by decide +kernel
theorem dX5_begins_35 : decode cX5_begins 35 = .ok (.iadd, 1) := by decide +kernel
theorem dX5_begins_36 : decode cX5_begins 36 = .ok (.iload_n 3, 1) := by decide +kernel
theorem dX5_begins_37 : decode cX5_begins 37 = .ok (.bipush 7, 2) := by decide +kernel
theorem dX5_begins_39 : decode cX5_begins 39 = .ok (.irem, 1) := by decide +kernel
theorem dX5_begins_40 : decode cX5_begins 40 = .ok (.iconst 3, 1) := by decide +kernel
theorem dX5_begins_41 : decode cX5_begins 41 = .ok (.isub, 1) := by decide +kernel
theorem dX5_begins_42 : decode cX5_begins 42 = .ok (.invokestatic 120, 3) := by decide +kernel
theorem dX5_begins_45 : decode cX5_begins 45 = .ok (.iadd, 1) := by decide +kernel
theorem dX5_begins_46 : decode cX5_begins 46 = .ok (.aload_n 0, 1) := by decide +kernel
theorem dX5_begins_47 : decode cX5_begins 47 = .ok (.getfield 39, 3) := by decide +kernel
theorem dX5_begins_50 : decode cX5_begins 50 = .ok (.iload_n 3, 1) := by decide +kernel
theorem dX5_begins_51 : decode cX5_begins 51 = .ok (.iaload, 1) := by decide +kernel
theorem dX5_begins_52 : decode cX5_begins 52 = .ok (.iadd, 1) := by decide +kernel
theorem dX5_begins_53 : decode cX5_begins 53 = .ok (.istore 4, 2) := by decide +kernel
theorem dX5_begins_55 : decode cX5_begins 55 = .ok (.iload 4, 2) := by decide +kernel
theorem dX5_begins_57 : decode cX5_begins 57 = .ok (.iload_n 1, 1) := by decide +kernel
theorem dX5_begins_58 : decode cX5_begins 58 = .ok (.if_icmp .ge 7, 3) := by decide +kernel
theorem dX5_begins_61 : decode cX5_begins 61 = .ok (.iload_n 3, 1) := by decide +kernel
theorem dX5_begins_62 : decode cX5_begins 62 = .ok (.goto 4, 3) := by decide +kernel
theorem dX5_begins_65 : decode cX5_begins 65 = .ok (.iload_n 2, 1) := by decide +kernel
theorem dX5_begins_66 : decode cX5_begins 66 = .ok (.istore_n 2, 1) := by decide +kernel
theorem dX5_begins_67 : decode cX5_begins 67 = .ok (.iload 4, 2) := by decide +kernel
theorem dX5_begins_69 : decode cX5_begins 69 = .ok (.iload_n 1, 1) := by decide +kernel
theorem dX5_begins_70 : decode cX5_begins 70 = .ok (.if_icmp .ge 8, 3) := by decide +kernel
theorem dX5_begins_73 : decode cX5_begins 73 = .ok (.iload 4, 2) := by decide +kernel
theorem dX5_begins_75 : decode cX5_begins 75 = .ok (.goto 4, 3) := by decide +kernel
theorem dX5_begins_78 : decode cX5_begins 78 = .ok (.iload_n 1, 1) := by decide +kernel
theorem dX5_begins_79 : decode cX5_begins 79 = .ok (.istore_n 1, 1) := by decide +kernel
theorem dX5_begins_80 : decode cX5_begins 80 = .ok (.iinc 3 1, 3) := by decide +kernel
theorem dX5_begins_83 : decode cX5_begins 83 = .ok (.goto (-76), 3) := by decide +kernel
theorem dX5_begins_86 : decode cX5_begins 86 = .ok (.aload_n 0, 1) := by decide +kernel
theorem dX5_begins_87 : decode cX5_begins 87 = .ok (.iload_n 1, 1) := by decide +kernel
theorem dX5_begins_88 : decode cX5_begins 88 = .ok (.putfield 142, 3) := by decide +kernel
theorem dX5_begins_91 : decode cX5_begins 91 = .ok (.aload_n 0, 1) := by decide +kernel
theorem dX5_begins_92 : decode cX5_begins 92 = .ok (.getfield 42, 3) := by decide +kernel
theorem dX5_begins_95 : decode cX5_begins 95 = .ok (.iconst 0, 1) := by decide +kernel
theorem dX5_begins_96 : decode cX5_begins 96 = .ok (.iload_n 2, 1) := by decide +kernel
theorem dX5_begins_97 : decode cX5_begins 97 = .ok (.bipush 49, 2) := by decide +kernel
theorem dX5_begins_99 : decode cX5_begins 99 = .ok (.idiv, 1) := by decide +kernel
theorem dX5_begins_100 : decode cX5_begins 100 = .ok (.iconst 3, 1) := by decide +kernel
theorem dX5_begins_101 : decode cX5_begins 101 = .ok (.isub, 1) := by decide +kernel
theorem dX5_begins_102 : decode cX5_begins 102 = .ok (.iastore, 1) := by decide +kernel
theorem dX5_begins_103 : decode cX5_begins 103 = .ok (.aload_n 0, 1) := by decide +kernel
theorem dX5_begins_104 : decode cX5_begins 104 = .ok (.getfield 42, 3) := by decide +kernel
theorem dX5_begins_107 : decode cX5_begins 107 = .ok (.iconst 1, 1) := by decide +kernel
theorem dX5_begins_108 : decode cX5_begins 108 = .ok (.iload_n 2, 1) := by decide +kernel
theorem dX5_begins_109 : decode cX5_begins 109 = .ok (.bipush 7, 2) := by decide +kernel
theorem dX5_begins_111 : decode cX5_begins 111 = .ok (.idiv, 1) := by decide +kernel
theorem dX5_begins_112 : decode cX5_begins 112 = .ok (.bipush 7, 2) := by decide +kernel
theorem dX5_begins_114 : decode cX5_begins 114 = .ok (.irem, 1) := by decide +kernel
theorem dX5_begins_115 : decode cX5_begins 115 = .ok (.iconst 3, 1) := by decide +kernel
theorem dX5_begins_116 : decode cX5_begins 116 = .ok (.isub, 1) := by decide +kernel
theorem dX5_begins_117 : decode cX5_begins 117 = .ok (.iastore, 1) := by decide +kernel
theorem dX5_begins_118 : decode cX5_begins 118 = .ok (.aload_n 0, 1) := by decide +kernel
theorem dX5_begins_119 : decode cX5_begins 119 = .ok (.getfield 42, 3) := by decide +kernel
theorem dX5_begins_122 : decode cX5_begins 122 = .ok (.iconst 2, 1) := by decide +kernel
theorem dX5_begins_123 : decode cX5_begins 123 = .ok (.iload_n 2, 1) := by decide +kernel
theorem dX5_begins_124 : decode cX5_begins 124 = .ok (.bipush 7, 2) := by decide +kernel
theorem dX5_begins_126 : decode cX5_begins 126 = .ok (.irem, 1) := by decide +kernel
theorem dX5_begins_127 : decode cX5_begins 127 = .ok (.iconst 3, 1) := by decide +kernel
theorem dX5_begins_128 : decode cX5_begins 128 = .ok (.isub, 1) := by decide +kernel
theorem dX5_begins_129 : decode cX5_begins 129 = .ok (.iastore, 1) := by decide +kernel
theorem dX5_begins_130 : decode cX5_begins 130 = .ok (.iload_n 1, 1) := by decide +kernel
theorem dX5_begins_131 : decode cX5_begins 131 = .ok (.ldc 127, 2) := by decide +kernel
theorem dX5_begins_133 : decode cX5_begins 133 = .ok (.if_icmp .ge 7, 3) := by decide +kernel
theorem dX5_begins_136 : decode cX5_begins 136 = .ok (.iconst 1, 1) := by decide +kernel
theorem dX5_begins_137 : decode cX5_begins 137 = .ok (.goto 4, 3) := by decide +kernel
theorem dX5_begins_140 : decode cX5_begins 140 = .ok (.iconst 0, 1) := by decide +kernel
theorem dX5_begins_141 : decode cX5_begins 141 = .ok (.ireturn, 1) := by decide +kernel
theorem dX5_nextMove_0 : decode cX5_nextMove 0 = .ok (.aload_n 0, 1) := by decide +kernel
theorem dX5_nextMove_1 : decode cX5_nextMove 1 = .ok (.getfield 39, 3) := by decide +kernel
theorem dX5_nextMove_4 : decode cX5_nextMove 4 = .ok (.sipush 343, 3) := by decide +kernel
theorem dX5_nextMove_7 : decode cX5_nextMove 7 = .ok (.iload_n 1, 1) := by decide +kernel
theorem dX5_nextMove_8 : decode cX5_nextMove 8 = .ok (.imul, 1) := by decide +kernel
theorem dX5_nextMove_9 : decode cX5_nextMove 9 = .ok (.aload_n 0, 1) := by decide +kernel
theorem dX5_nextMove_10 : decode cX5_nextMove 10 = .ok (.getfield 42, 3) := by decide +kernel
theorem dX5_nextMove_13 : decode cX5_nextMove 13 = .ok (.iload_n 1, 1) := by decide +kernel
theorem dX5_nextMove_14 : decode cX5_nextMove 14 = .ok (.iaload, 1) := by decide +kernel
theorem dX5_nextMove_15 : decode cX5_nextMove 15 = .ok (.aload_n 0, 1) := by decide +kernel
theorem dX5_nextMove_16 : decode cX5_nextMove 16 = .ok (.getfield 42, 3) := by decide +kernel
theorem dX5_nextMove_19 : decode cX5_nextMove 19 = .ok (.iload_n 1, 1) := by decide +kernel
theorem dX5_nextMove_20 : decode cX5_nextMove 20 = .ok (.iconst 1, 1) := by decide +kernel
theorem dX5_nextMove_21 : decode cX5_nextMove 21 = .ok (.iadd, 1) := by decide +kernel
theorem dX5_nextMove_22 : decode cX5_nextMove 22 = .ok (.iaload, 1) := by decide +kernel
theorem dX5_nextMove_23 : decode cX5_nextMove 23 = .ok (.aload_n 0, 1) := by decide +kernel
theorem dX5_nextMove_24 : decode cX5_nextMove 24 = .ok (.getfield 42, 3) := by decide +kernel
theorem dX5_nextMove_27 : decode cX5_nextMove 27 = .ok (.iload_n 1, 1) := by decide +kernel
theorem dX5_nextMove_28 : decode cX5_nextMove 28 = .ok (.iconst 2, 1) := by decide +kernel
theorem dX5_nextMove_29 : decode cX5_nextMove 29 = .ok (.iadd, 1) := by decide +kernel
theorem dX5_nextMove_30 : decode cX5_nextMove 30 = .ok (.iaload, 1) := by decide +kernel
theorem dX5_nextMove_31 : decode cX5_nextMove 31 = .ok (.invokestatic 135, 3) := by decide +kernel
theorem dX5_nextMove_34 : decode cX5_nextMove 34 = .ok (.iadd, 1) := by decide +kernel
theorem dX5_nextMove_35 : decode cX5_nextMove 35 = .ok (.iaload, 1) := by decide +kernel
theorem dX5_nextMove_36 : decode cX5_nextMove 36 = .ok (.istore_n 2, 1) := by decide +kernel
theorem dX5_nextMove_37 : decode cX5_nextMove 37 = .ok (.aload_n 0, 1) := by decide +kernel
theorem dX5_nextMove_38 : decode cX5_nextMove 38 = .ok (.getfield 13, 3) := by decide +kernel
theorem dX5_nextMove_41 : decode cX5_nextMove 41 = .ok (.ineg, 1) := by decide +kernel
theorem dX5_nextMove_42 : decode cX5_nextMove 42 = .ok (.istore_n 3, 1) := by decide +kernel
theorem dX5_nextMove_43 : decode cX5_nextMove 43 = .ok (.iload_n 3, 1) := by decide +kernel
theorem dX5_nextMove_44 : decode cX5_nextMove 44 = .ok (.aload_n 0, 1) := by decide +kernel
theorem dX5_nextMove_45 : decode cX5_nextMove 45 = .ok (.getfield 13, 3) := by decide +kernel
theorem dX5_nextMove_48 : decode cX5_nextMove 48 = .ok (.if_icmp .gt 95, 3) := by decide +kernel
theorem dX5_nextMove_51 : decode cX5_nextMove 51 = .ok (.aload_n 0, 1) := by decide +kernel
theorem dX5_nextMove_52 : decode cX5_nextMove 52 = .ok (.iload_n 1, 1) := by decide +kernel
theorem dX5_nextMove_53 : decode cX5_nextMove 53 = .ok (.iconst 3, 1) := by decide +kernel
theorem dX5_nextMove_54 : decode cX5_nextMove 54 = .ok (.iadd, 1) := by decide +kernel
theorem dX5_nextMove_55 : decode cX5_nextMove 55 = .ok (.iload_n 3, 1) := by decide +kernel
theorem dX5_nextMove_56 : decode cX5_nextMove 56 = .ok (.invokevirtual 128, 3) := by decide +kernel
theorem dX5_nextMove_59 : decode cX5_nextMove 59 = .ok (.ifCond .eq 78, 3) := by decide +kernel
theorem dX5_nextMove_62 : decode cX5_nextMove 62 = .ok (.aload_n 0, 1) := by decide +kernel
theorem dX5_nextMove_63 : decode cX5_nextMove 63 = .ok (.iload_n 1, 1) := by decide +kernel
theorem dX5_nextMove_64 : decode cX5_nextMove 64 = .ok (.aload_n 0, 1) := by decide +kernel
theorem dX5_nextMove_65 : decode cX5_nextMove 65 = .ok (.getfield 42, 3) := by decide +kernel
theorem dX5_nextMove_68 : decode cX5_nextMove 68 = .ok (.iload_n 1, 1) := by decide +kernel
theorem dX5_nextMove_69 : decode cX5_nextMove 69 = .ok (.iaload, 1) := by decide +kernel
theorem dX5_nextMove_70 : decode cX5_nextMove 70 = .ok (.aload_n 0, 1) := by decide +kernel
theorem dX5_nextMove_71 : decode cX5_nextMove 71 = .ok (.getfield 42, 3) := by decide +kernel
theorem dX5_nextMove_74 : decode cX5_nextMove 74 = .ok (.iload_n 1, 1) := by decide +kernel
theorem dX5_nextMove_75 : decode cX5_nextMove 75 = .ok (.iconst 1, 1) := by decide +kernel
theorem dX5_nextMove_76 : decode cX5_nextMove 76 = .ok (.iadd, 1) := by decide +kernel
theorem dX5_nextMove_77 : decode cX5_nextMove 77 = .ok (.iaload, 1) := by decide +kernel
theorem dX5_nextMove_78 : decode cX5_nextMove 78 = .ok (.aload_n 0, 1) := by decide +kernel
theorem dX5_nextMove_79 : decode cX5_nextMove 79 = .ok (.getfield 42, 3) := by decide +kernel
theorem dX5_nextMove_82 : decode cX5_nextMove 82 = .ok (.iload_n 1, 1) := by decide +kernel
theorem dX5_nextMove_83 : decode cX5_nextMove 83 = .ok (.iconst 2, 1) := by decide +kernel
theorem dX5_nextMove_84 : decode cX5_nextMove 84 = .ok (.iadd, 1) := by decide +kernel
theorem dX5_nextMove_85 : decode cX5_nextMove 85 = .ok (.iaload, 1) := by decide +kernel
theorem dX5_nextMove_86 : decode cX5_nextMove 86 = .ok (.iload_n 3, 1) := by decide +kernel
theorem dX5_nextMove_87 : decode cX5_nextMove 87 = .ok (.invokevirtual 131, 3) := by decide +kernel
theorem dX5_nextMove_90 : decode cX5_nextMove 90 = .ok (.ifCond .eq 47, 3) := by decide +kernel
theorem dX5_nextMove_93 : decode cX5_nextMove 93 = .ok (.iload_n 3, 1) := by decide +kernel
theorem dX5_nextMove_94 : decode cX5_nextMove 94 = .ok (.invokestatic 120, 3) := by decide +kernel
theorem dX5_nextMove_97 : decode cX5_nextMove 97 = .ok (.aload_n 0, 1) := by decide +kernel
theorem dX5_nextMove_98 : decode cX5_nextMove 98 = .ok (.getfield 39, 3) := by decide +kernel
theorem dX5_nextMove_101 : decode cX5_nextMove 101 = .ok (.sipush 343, 3) := by decide +kernel
theorem dX5_nextMove_104 : decode cX5_nextMove 104 = .ok (.iload_n 1, 1) := by decide +kernel
theorem dX5_nextMove_105 : decode cX5_nextMove 105 = .ok (.iconst 1, 1) := by decide +kernel
theorem dX5_nextMove_106 : decode cX5_nextMove 106 = .ok (.iadd, 1) := by decide +kernel
theorem dX5_nextMove_107 : decode cX5_nextMove 107 = .ok (.imul, 1) := by decide +kernel
theorem dX5_nextMove_108 : decode cX5_nextMove 108 = .ok (.aload_n 0, 1) := by decide +kernel
theorem dX5_nextMove_109 : decode cX5_nextMove 109 = .ok (.getfield 42, 3) := by decide +kernel
theorem dX5_nextMove_112 : decode cX5_nextMove 112 = .ok (.iload_n 1, 1) := by decide +kernel
theorem dX5_nextMove_113 : decode cX5_nextMove 113 = .ok (.iconst 1, 1) := by decide +kernel
theorem dX5_nextMove_114 : decode cX5_nextMove 114 = .ok (.iadd, 1) := by decide +kernel
theorem dX5_nextMove_115 : decode cX5_nextMove 115 = .ok (.iaload, 1) := by decide +kernel
theorem dX5_nextMove_116 : decode cX5_nextMove 116 = .ok (.aload_n 0, 1) := by decide +kernel
theorem dX5_nextMove_117 : decode cX5_nextMove 117 = .ok (.getfield 42, 3) := by decide +kernel
theorem dX5_nextMove_120 : decode cX5_nextMove 120 = .ok (.iload_n 1, 1) := by decide +kernel
theorem dX5_nextMove_121 : decode cX5_nextMove 121 = .ok (.iconst 2, 1) := by decide +kernel
theorem dX5_nextMove_122 : decode cX5_nextMove 122 = .ok (.iadd, 1) := by decide +kernel
theorem dX5_nextMove_123 : decode cX5_nextMove 123 = .ok (.iaload, 1) := by decide +kernel
theorem dX5_nextMove_124 : decode cX5_nextMove 124 = .ok (.iload_n 3, 1) := by decide +kernel
theorem dX5_nextMove_125 : decode cX5_nextMove 125 = .ok (.invokestatic 135, 3) := by decide +kernel
theorem dX5_nextMove_128 : decode cX5_nextMove 128 = .ok (.iadd, 1) := by decide +kernel
theorem dX5_nextMove_129 : decode cX5_nextMove 129 = .ok (.iaload, 1) := by decide +kernel
theorem dX5_nextMove_130 : decode cX5_nextMove 130 = .ok (.iadd, 1) := by decide +kernel
theorem dX5_nextMove_131 : decode cX5_nextMove 131 = .ok (.iload_n 2, 1) := by decide +kernel
theorem dX5_nextMove_132 : decode cX5_nextMove 132 = .ok (.if_icmp .ne 5, 3) := by decide +kernel
theorem dX5_nextMove_135 : decode cX5_nextMove 135 = .ok (.iload_n 3, 1) := by decide +kernel
theorem dX5_nextMove_136 : decode cX5_nextMove 136 = .ok (.ireturn, 1) := by decide +kernel
theorem dX5_nextMove_137 : decode cX5_nextMove 137 = .ok (.iinc 3 1, 3) := by decide +kernel
theorem dX5_nextMove_140 : decode cX5_nextMove 140 = .ok (.goto (-97), 3) := by decide +kernel
theorem dX5_nextMove_143 : decode cX5_nextMove 143 = .ok (.bipush (-9), 2) := by decide +kernel
theorem dX5_nextMove_145 : decode cX5_nextMove 145 = .ok (.ireturn, 1) := by decide +kernel
theorem dX5_findLeast_0 : decode cX5_findLeast 0 = .ok (.aload_n 0, 1) := by decide +kernel
theorem dX5_findLeast_1 : decode cX5_findLeast 1 = .ok (.invokevirtual 145, 3) := by decide +kernel
theorem dX5_findLeast_4 : decode cX5_findLeast 4 = .ok (.aload_n 0, 1) := by decide +kernel
theorem dX5_findLeast_5 : decode cX5_findLeast 5 = .ok (.invokevirtual 148, 3) := by decide +kernel
theorem dX5_findLeast_8 : decode cX5_findLeast 8 = .ok (.ifCond .ne 5, 3) := by decide +kernel
theorem dX5_findLeast_11 : decode cX5_findLeast 11 = .ok (.iconst 0, 1) := by decide +kernel
theorem dX5_findLeast_12 : decode cX5_findLeast 12 = .ok (.ireturn, 1) := by decide +kernel
theorem dX5_findLeast_13 : decode cX5_findLeast 13 = .ok (.iconst 0, 1) := by decide +kernel
theorem dX5_findLeast_14 : decode cX5_findLeast 14 = .ok (.istore_n 1, 1) := by decide +kernel
theorem dX5_findLeast_15 : decode cX5_findLeast 15 = .ok (.iload_n 1, 1) := by decide +kernel
theorem dX5_findLeast_16 : decode cX5_findLeast 16 = .ok (.iconst 3, 1) := by decide +kernel
theorem dX5_findLeast_17 : decode cX5_findLeast 17 = .ok (.iadd, 1) := by decide +kernel
theorem dX5_findLeast_18 : decode cX5_findLeast 18 = .ok (.aload_n 0, 1) := by decide +kernel
theorem dX5_findLeast_19 : decode cX5_findLeast 19 = .ok (.getfield 97, 3) := by decide +kernel
theorem dX5_findLeast_22 : decode cX5_findLeast 22 = .ok (.if_icmp .ge 22, 3) := by decide +kernel
theorem dX5_findLeast_25 : decode cX5_findLeast 25 = .ok (.aload_n 0, 1) := by decide +kernel
theorem dX5_findLeast_26 : decode cX5_findLeast 26 = .ok (.getfield 42, 3) := by decide +kernel
theorem dX5_findLeast_29 : decode cX5_findLeast 29 = .ok (.iload_n 1, 1) := by decide +kernel
theorem dX5_findLeast_30 : decode cX5_findLeast 30 = .ok (.iconst 3, 1) := by decide +kernel
theorem dX5_findLeast_31 : decode cX5_findLeast 31 = .ok (.iadd, 1) := by decide +kernel
theorem dX5_findLeast_32 : decode cX5_findLeast 32 = .ok (.aload_n 0, 1) := by decide +kernel
theorem dX5_findLeast_33 : decode cX5_findLeast 33 = .ok (.iload_n 1, 1) := by decide +kernel
theorem dX5_findLeast_34 : decode cX5_findLeast 34 = .ok (.invokevirtual 152, 3) := by decide +kernel
theorem dX5_findLeast_37 : decode cX5_findLeast 37 = .ok (.iastore, 1) := by decide +kernel
theorem dX5_findLeast_38 : decode cX5_findLeast 38 = .ok (.iinc 1 1, 3) := by decide +kernel
theorem dX5_findLeast_41 : decode cX5_findLeast 41 = .ok (.goto (-26), 3) := by decide +kernel
theorem dX5_findLeast_44 : decode cX5_findLeast 44 = .ok (.iconst 1, 1) := by decide +kernel
theorem dX5_findLeast_45 : decode cX5_findLeast 45 = .ok (.ireturn, 1) := by decide +kernel
theorem dX5_least_0 : decode cX5_least 0 = .ok (.iload_n 1, 1) := by decide +kernel
theorem dX5_least_1 : decode cX5_least 1 = .ok (.invokestatic 103, 3) := by decide +kernel
theorem dX5_least_4 : decode cX5_least 4 = .ok (.ifCond .ne 6, 3) := by decide +kernel
theorem dX5_least_7 : decode cX5_least 7 = .ok (.bipush (-2), 2) := by decide +kernel
theorem dX5_least_9 : decode cX5_least 9 = .ok (.ireturn, 1) := by decide +kernel
theorem dX5_least_10 : decode cX5_least 10 = .ok (.aload_n 0, 1) := by decide +kernel
theorem dX5_least_11 : decode cX5_least 11 = .ok (.iload_n 1, 1) := by decide +kernel
theorem dX5_least_12 : decode cX5_least 12 = .ok (.iload_n 2, 1) := by decide +kernel
theorem dX5_least_13 : decode cX5_least 13 = .ok (.invokevirtual 106, 3) := by decide +kernel
theorem dX5_least_16 : decode cX5_least 16 = .ok (.ifCond .ne 5, 3) := by decide +kernel
theorem dX5_least_19 : decode cX5_least 19 = .ok (.iconst (-1), 1) := by decide +kernel
theorem dX5_least_20 : decode cX5_least 20 = .ok (.ireturn, 1) := by decide +kernel
theorem dX5_least_21 : decode cX5_least 21 = .ok (.aload_n 0, 1) := by decide +kernel
theorem dX5_least_22 : decode cX5_least 22 = .ok (.iload_n 1, 1) := by decide +kernel
theorem dX5_least_23 : decode cX5_least 23 = .ok (.iload_n 2, 1) := by decide +kernel
theorem dX5_least_24 : decode cX5_least 24 = .ok (.invokevirtual 109, 3) := by decide +kernel
theorem dX5_least_27 : decode cX5_least 27 = .ok (.iload_n 3, 1) := by decide +kernel
theorem dX5_least_28 : decode cX5_least 28 = .ok (.i2l, 1) := by decide +kernel
theorem dX5_least_29 : decode cX5_least 29 = .ok (.ldc2_w 155, 3) := by decide +kernel
theorem dX5_least_32 : decode cX5_least 32 = .ok (.aload_n 0, 1) := by decide +kernel
theorem dX5_least_33 : decode cX5_least 33 = .ok (.getfield 97, 3) := by decide +kernel
theorem dX5_least_36 : decode cX5_least 36 = .ok (.iconst 1, 1) := by decide +kernel
theorem dX5_least_37 : decode cX5_least 37 = .ok (.isub, 1) := by decide +kernel
theorem dX5_least_38 : decode cX5_least 38 = .ok (.i2l, 1) := by decide +kernel
theorem dX5_least_39 : decode cX5_least 39 = .ok (.invokestatic 67, 3) := by decide +kernel
theorem dX5_least_42 : decode cX5_least 42 = .ok (.ifCond .ne 6, 3) := by decide +kernel
theorem dX5_least_45 : decode cX5_least 45 = .ok (.bipush (-2), 2) := by decide +kernel
theorem dX5_least_47 : decode cX5_least 47 = .ok (.ireturn, 1) := by decide +kernel
theorem dX5_least_48 : decode cX5_least 48 = .ok (.aload_n 0, 1) := by decide +kernel
theorem dX5_least_49 : decode cX5_least 49 = .ok (.invokevirtual 157, 3) := by decide +kernel
theorem dX5_least_52 : decode cX5_least 52 = .ok (.ifCond .ne 6, 3) := by decide +kernel
theorem dX5_least_55 : decode cX5_least 55 = .ok (.bipush (-9), 2) := by decide +kernel
theorem dX5_least_57 : decode cX5_least 57 = .ok (.ireturn, 1) := by decide +kernel
theorem dX5_least_58 : decode cX5_least 58 = .ok (.iload_n 3, 1) := by decide +kernel
theorem dX5_least_59 : decode cX5_least 59 = .ok (.ifCond .ge 10, 3) := by decide +kernel
theorem dX5_least_62 : decode cX5_least 62 = .ok (.aload_n 0, 1) := by decide +kernel
theorem dX5_least_63 : decode cX5_least 63 = .ok (.getfield 142, 3) := by decide +kernel
theorem dX5_least_66 : decode cX5_least 66 = .ok (.goto 9, 3) := by decide +kernel
theorem dX5_least_69 : decode cX5_least 69 = .ok (.aload_n 0, 1) := by decide +kernel
theorem dX5_least_70 : decode cX5_least 70 = .ok (.getfield 42, 3) := by decide +kernel
theorem dX5_least_73 : decode cX5_least 73 = .ok (.iload_n 3, 1) := by decide +kernel
theorem dX5_least_74 : decode cX5_least 74 = .ok (.iaload, 1) := by decide +kernel
theorem dX5_least_75 : decode cX5_least 75 = .ok (.ireturn, 1) := by decide +kernel
theorem dX5_fairs_0 : decode cX5_fairs 0 = .ok (.aload_n 0, 1) := by decide +kernel
theorem dX5_fairs_1 : decode cX5_fairs 1 = .ok (.iload_n 1, 1) := by decide +kernel
theorem dX5_fairs_2 : decode cX5_fairs 2 = .ok (.iload_n 2, 1) := by decide +kernel
theorem dX5_fairs_3 : decode cX5_fairs 3 = .ok (.invokevirtual 109, 3) := by decide +kernel
theorem dX5_fairs_6 : decode cX5_fairs 6 = .ok (.aload_n 0, 1) := by decide +kernel
theorem dX5_fairs_7 : decode cX5_fairs 7 = .ok (.invokevirtual 157, 3) := by decide +kernel
theorem dX5_fairs_10 : decode cX5_fairs 10 = .ok (.ifCond .ne 5, 3) := by decide +kernel
theorem dX5_fairs_13 : decode cX5_fairs 13 = .ok (.iconst 0, 1) := by decide +kernel
theorem dX5_fairs_14 : decode cX5_fairs 14 = .ok (.ireturn, 1) := by decide +kernel
theorem dX5_fairs_15 : decode cX5_fairs 15 = .ok (.iconst 0, 1) := by decide +kernel
theorem dX5_fairs_16 : decode cX5_fairs 16 = .ok (.istore_n 3, 1) := by decide +kernel
theorem dX5_fairs_17 : decode cX5_fairs 17 = .ok (.iload_n 3, 1) := by decide +kernel
theorem dX5_fairs_18 : decode cX5_fairs 18 = .ok (.aload_n 0, 1) := by decide +kernel
theorem dX5_fairs_19 : decode cX5_fairs 19 = .ok (.getfield 97, 3) := by decide +kernel
theorem dX5_fairs_22 : decode cX5_fairs 22 = .ok (.if_icmp .ge 29, 3) := by decide +kernel
theorem dX5_fairs_25 : decode cX5_fairs 25 = .ok (.aload_n 0, 1) := by decide +kernel
theorem dX5_fairs_26 : decode cX5_fairs 26 = .ok (.getfield 22, 3) := by decide +kernel
theorem dX5_fairs_29 : decode cX5_fairs 29 = .ok (.aload_n 0, 1) := by decide +kernel
theorem dX5_fairs_30 : decode cX5_fairs 30 = .ok (.getfield 33, 3) := by decide +kernel
theorem dX5_fairs_33 : decode cX5_fairs 33 = .ok (.iload_n 3, 1) := by decide +kernel
theorem dX5_fairs_34 : decode cX5_fairs 34 = .ok (.iaload, 1) := by decide +kernel
theorem dX5_fairs_35 : decode cX5_fairs 35 = .ok (.dup2, 1) := by decide +kernel
theorem dX5_fairs_36 : decode cX5_fairs 36 = .ok (.iaload, 1) := by decide +kernel
theorem dX5_fairs_37 : decode cX5_fairs 37 = .ok (.aload_n 0, 1) := by decide +kernel
theorem dX5_fairs_38 : decode cX5_fairs 38 = .ok (.getfield 42, 3) := by decide +kernel
theorem dX5_fairs_41 : decode cX5_fairs 41 = .ok (.iload_n 3, 1) := by decide +kernel
theorem dX5_fairs_42 : decode cX5_fairs 42 = .ok (.iaload, 1) := by decide +kernel
theorem dX5_fairs_43 : decode cX5_fairs 43 = .ok (.iadd, 1) := by decide +kernel
theorem dX5_fairs_44 : decode cX5_fairs 44 = .ok (.iastore, 1) := by decide +kernel
theorem dX5_fairs_45 : decode cX5_fairs 45 = .ok (.iinc 3 1, 3) := by decide +kernel
theorem dX5_fairs_48 : decode cX5_fairs 48 = .ok (.goto (-31), 3) := by decide +kernel
theorem dX5_fairs_51 : decode cX5_fairs 51 = .ok (.iconst 1, 1) := by decide +kernel
theorem dX5_fairs_52 : decode cX5_fairs 52 = .ok (.ireturn, 1) := by decide +kernel
theorem dX5_fair_0 : decode cX5_fair 0 = .ok (.iload_n 1, 1) := by decide +kernel
theorem dX5_fair_1 : decode cX5_fair 1 = .ok (.invokestatic 103, 3) := by decide +kernel
theorem dX5_fair_4 : decode cX5_fair 4 = .ok (.ifCond .ne 6, 3) := by decide +kernel
theorem dX5_fair_7 : decode cX5_fair 7 = .ok (.bipush (-2), 2) := by decide +kernel
theorem dX5_fair_9 : decode cX5_fair 9 = .ok (.ireturn, 1) := by decide +kernel
theorem dX5_fair_10 : decode cX5_fair 10 = .ok (.aload_n 0, 1) := by decide +kernel
theorem dX5_fair_11 : decode cX5_fair 11 = .ok (.iload_n 1, 1) := by decide +kernel
theorem dX5_fair_12 : decode cX5_fair 12 = .ok (.iload_n 2, 1) := by decide +kernel
theorem dX5_fair_13 : decode cX5_fair 13 = .ok (.invokevirtual 106, 3) := by decide +kernel
theorem dX5_fair_16 : decode cX5_fair 16 = .ok (.ifCond .ne 5, 3) := by decide +kernel
theorem dX5_fair_19 : decode cX5_fair 19 = .ok (.iconst (-1), 1) := by decide +kernel
theorem dX5_fair_20 : decode cX5_fair 20 = .ok (.ireturn, 1) := by decide +kernel
theorem dX5_fair_21 : decode cX5_fair 21 = .ok (.aload_n 0, 1) := by decide +kernel
theorem dX5_fair_22 : decode cX5_fair 22 = .ok (.iload_n 1, 1) := by decide +kernel
theorem dX5_fair_23 : decode cX5_fair 23 = .ok (.iload_n 2, 1) := by decide +kernel
theorem dX5_fair_24 : decode cX5_fair 24 = .ok (.invokevirtual 160, 3) := by decide +kernel
theorem dX5_fair_27 : decode cX5_fair 27 = .ok (.ifCond .eq 10, 3) := by decide +kernel
theorem dX5_fair_30 : decode cX5_fair 30 = .ok (.aload_n 0, 1) := by decide +kernel
theorem dX5_fair_31 : decode cX5_fair 31 = .ok (.getfield 142, 3) := by decide +kernel
theorem dX5_fair_34 : decode cX5_fair 34 = .ok (.goto 5, 3) := by decide +kernel
theorem dX5_fair_37 : decode cX5_fair 37 = .ok (.bipush (-3), 2) := by decide +kernel
theorem dX5_fair_39 : decode cX5_fair 39 = .ok (.ireturn, 1) := by decide +kernel
theorem dX5_round_0 : decode cX5_round 0 = .ok (.iconst 0, 1) := by decide +kernel
theorem dX5_round_1 : decode cX5_round 1 = .ok (.istore_n 1, 1) := by decide +kernel
theorem dX5_round_2 : decode cX5_round 2 = .ok (.iload_n 1, 1) := by decide +kernel
theorem dX5_round_3 : decode cX5_round 3 = .ok (.bipush 63, 2) := by decide +kernel
theorem dX5_round_5 : decode cX5_round 5 = .ok (.if_icmp .ge 21, 3) := by decide +kernel
theorem dX5_round_8 : decode cX5_round 8 = .ok (.aload_n 0, 1) := by decide +kernel
theorem dX5_round_9 : decode cX5_round 9 = .ok (.getfield 45, 3) := by decide +kernel
theorem dX5_round_12 : decode cX5_round 12 = .ok (.iload_n 1, 1) := by decide +kernel
theorem dX5_round_13 : decode cX5_round 13 = .ok (.aload_n 0, 1) := by decide +kernel
theorem dX5_round_14 : decode cX5_round 14 = .ok (.getfield 22, 3) := by decide +kernel
theorem dX5_round_17 : decode cX5_round 17 = .ok (.iload_n 1, 1) := by decide +kernel
theorem dX5_round_18 : decode cX5_round 18 = .ok (.iaload, 1) := by decide +kernel
theorem dX5_round_19 : decode cX5_round 19 = .ok (.iastore, 1) := by decide +kernel
theorem dX5_round_20 : decode cX5_round 20 = .ok (.iinc 1 1, 3) := by decide +kernel
theorem dX5_round_23 : decode cX5_round 23 = .ok (.goto (-21), 3) := by decide +kernel
theorem dX5_round_26 : decode cX5_round 26 = .ok (.iconst 0, 1) := by decide +kernel
theorem dX5_round_27 : decode cX5_round 27 = .ok (.istore_n 1, 1) := by decide +kernel
theorem dX5_round_28 : decode cX5_round 28 = .ok (.iload_n 1, 1) := by decide +kernel
theorem dX5_round_29 : decode cX5_round 29 = .ok (.iconst 2, 1) := by decide +kernel
theorem dX5_round_30 : decode cX5_round 30 = .ok (.if_icmp .ge 33, 3) := by decide +kernel
theorem dX5_round_33 : decode cX5_round 33 = .ok (.iconst 0, 1) := by decide +kernel
theorem dX5_round_34 : decode cX5_round 34 = .ok (.istore_n 2, 1) := by decide +kernel
theorem dX5_round_35 : decode cX5_round 35 = .ok (.iload_n 2, 1) := by decide +kernel
theorem dX5_round_36 : decode cX5_round 36 = .ok (.aload_n 0, 1) := by decide +kernel
theorem dX5_round_37 : decode cX5_round 37 = .ok (.iload_n 1, 1) := by decide +kernel
theorem dX5_round_38 : decode cX5_round 38 = .ok (.invokevirtual 93, 3) := by decide +kernel
theorem dX5_round_41 : decode cX5_round 41 = .ok (.if_icmp .ge 16, 3) := by decide +kernel
theorem dX5_round_44 : decode cX5_round 44 = .ok (.aload_n 0, 1) := by decide +kernel
theorem dX5_round_45 : decode cX5_round 45 = .ok (.iload_n 1, 1) := by decide +kernel
theorem dX5_round_46 : decode cX5_round 46 = .ok (.iload_n 2, 1) := by decide +kernel
theorem dX5_round_47 : decode cX5_round 47 = .ok (.invokevirtual 160, 3) := by decide +kernel
theorem dX5_round_50 : decode cX5_round 50 = .ok (.pop, 1) := by decide +kernel
theorem dX5_round_51 : decode cX5_round 51 = .ok (.iinc 2 1, 3) := by decide +kernel
theorem dX5_round_54 : decode cX5_round 54 = .ok (.goto (-19), 3) := by decide +kernel
theorem dX5_round_57 : decode cX5_round 57 = .ok (.iinc 1 1, 3) := by decide +kernel
theorem dX5_round_60 : decode cX5_round 60 = .ok (.goto (-32), 3) := by decide +kernel
theorem dX5_round_63 : decode cX5_round 63 = .ok (.iconst 0, 1) := by decide +kernel
theorem dX5_round_64 : decode cX5_round 64 = .ok (.istore_n 1, 1) := by decide +kernel
theorem dX5_round_65 : decode cX5_round 65 = .ok (.iconst 0, 1) := by decide +kernel
theorem dX5_round_66 : decode cX5_round 66 = .ok (.istore_n 2, 1) := by decide +kernel
theorem dX5_round_67 : decode cX5_round 67 = .ok (.iload_n 2, 1) := by decide +kernel
theorem dX5_round_68 : decode cX5_round 68 = .ok (.bipush 63, 2) := by decide +kernel
theorem dX5_round_70 : decode cX5_round 70 = .ok (.if_icmp .ge 34, 3) := by decide +kernel
theorem dX5_round_73 : decode cX5_round 73 = .ok (.iload_n 1, 1) := by decide +kernel
theorem dX5_round_74 : decode cX5_round 74 = .ok (.ifCond .ne 18, 3) := by decide +kernel
theorem dX5_round_77 : decode cX5_round 77 = .ok (.aload_n 0, 1) := by decide +kernel
theorem dX5_round_78 : decode cX5_round 78 = .ok (.getfield 45, 3) := by decide +kernel
theorem dX5_round_81 : decode cX5_round 81 = .ok (.iload_n 2, 1) := by decide +kernel
theorem dX5_round_82 : decode cX5_round 82 = .ok (.iaload, 1) := by decide +kernel
theorem dX5_round_83 : decode cX5_round 83 = .ok (.aload_n 0, 1) := by decide +kernel
theorem dX5_round_84 : decode cX5_round 84 = .ok (.getfield 22, 3) := by decide +kernel
theorem dX5_round_87 : decode cX5_round 87 = .ok (.iload_n 2, 1) := by decide +kernel
theorem dX5_round_88 : decode cX5_round 88 = .ok (.iaload, 1) := by decide +kernel
theorem dX5_round_89 : decode cX5_round 89 = .ok (.if_icmp .eq 7, 3) := by decide +kernel
theorem dX5_round_92 : decode cX5_round 92 = .ok (.iconst 1, 1) := by decide +kernel
theorem dX5_round_93 : decode cX5_round 93 = .ok (.goto 4, 3) := by decide +kernel
theorem dX5_round_96 : decode cX5_round 96 = .ok (.iconst 0, 1) := by decide +kernel
theorem dX5_round_97 : decode cX5_round 97 = .ok (.istore_n 1, 1) := by decide +kernel
theorem dX5_round_98 : decode cX5_round 98 = .ok (.iinc 2 1, 3) := by decide +kernel
theorem dX5_round_101 : decode cX5_round 101 = .ok (.goto (-34), 3) := by decide +kernel
theorem dX5_round_104 : decode cX5_round 104 = .ok (.iload_n 1, 1) := by decide +kernel
theorem dX5_round_105 : decode cX5_round 105 = .ok (.ireturn, 1) := by decide +kernel
theorem dX5_rounds_0 : decode cX5_rounds 0 = .ok (.iload_n 1, 1) := by decide +kernel
theorem dX5_rounds_1 : decode cX5_rounds 1 = .ok (.i2l, 1) := by decide +kernel
theorem dX5_rounds_2 : decode cX5_rounds 2 = .ok (.lconst 1, 1) := by decide +kernel
theorem dX5_rounds_3 : decode cX5_rounds 3 = .ok (.ldc2_w 163, 3) := by decide +kernel
theorem dX5_rounds_6 : decode cX5_rounds 6 = .ok (.invokestatic 67, 3) := by decide +kernel
theorem dX5_rounds_9 : decode cX5_rounds 9 = .ok (.ifCond .ne 6, 3) := by decide +kernel
theorem dX5_rounds_12 : decode cX5_rounds 12 = .ok (.bipush (-2), 2) := by decide +kernel
theorem dX5_rounds_14 : decode cX5_rounds 14 = .ok (.ireturn, 1) := by decide +kernel
theorem dX5_rounds_15 : decode cX5_rounds 15 = .ok (.iconst 1, 1) := by decide +kernel
theorem dX5_rounds_16 : decode cX5_rounds 16 = .ok (.istore_n 2, 1) := by decide +kernel
theorem dX5_rounds_17 : decode cX5_rounds 17 = .ok (.aload_n 0, 1) := by decide +kernel
theorem dX5_rounds_18 : decode cX5_rounds 18 = .ok (.invokevirtual 165, 3) := by decide +kernel
theorem dX5_rounds_21 : decode cX5_rounds 21 = .ok (.ifCond .eq 14, 3) := by decide +kernel
theorem dX5_rounds_24 : decode cX5_rounds 24 = .ok (.iload_n 2, 1) := by decide +kernel
theorem dX5_rounds_25 : decode cX5_rounds 25 = .ok (.iload_n 1, 1) := by decide +kernel
theorem dX5_rounds_26 : decode cX5_rounds 26 = .ok (.if_icmp .ge 9, 3) := by decide +kernel
theorem dX5_rounds_29 : decode cX5_rounds 29 = .ok (.iinc 2 1, 3) := by decide +kernel
theorem dX5_rounds_32 : decode cX5_rounds 32 = .ok (.goto (-15), 3) := by decide +kernel
theorem dX5_rounds_35 : decode cX5_rounds 35 = .ok (.iload_n 2, 1) := by decide +kernel
theorem dX5_rounds_36 : decode cX5_rounds 36 = .ok (.ireturn, 1) := by decide +kernel
theorem dX5_back_0 : decode cX5_back 0 = .ok (.iconst 0, 1) := by decide +kernel
theorem dX5_back_1 : decode cX5_back 1 = .ok (.istore_n 1, 1) := by decide +kernel
theorem dX5_back_2 : decode cX5_back 2 = .ok (.iconst 0, 1) := by decide +kernel
theorem dX5_back_3 : decode cX5_back 3 = .ok (.istore_n 2, 1) := by decide +kernel
theorem dX5_back_4 : decode cX5_back 4 = .ok (.iload_n 2, 1) := by decide +kernel
theorem dX5_back_5 : decode cX5_back 5 = .ok (.bipush 63, 2) := by decide +kernel
theorem dX5_back_7 : decode cX5_back 7 = .ok (.if_icmp .ge 44, 3) := by decide +kernel
theorem dX5_back_10 : decode cX5_back 10 = .ok (.iload_n 1, 1) := by decide +kernel
theorem dX5_back_11 : decode cX5_back 11 = .ok (.aload_n 0, 1) := by decide +kernel
theorem dX5_back_12 : decode cX5_back 12 = .ok (.getfield 22, 3) := by decide +kernel
theorem dX5_back_15 : decode cX5_back 15 = .ok (.iload_n 2, 1) := by decide +kernel
theorem dX5_back_16 : decode cX5_back 16 = .ok (.iaload, 1) := by decide +kernel
theorem dX5_back_17 : decode cX5_back 17 = .ok (.aload_n 0, 1) := by decide +kernel
theorem dX5_back_18 : decode cX5_back 18 = .ok (.getfield 26, 3) := by decide +kernel
theorem dX5_back_21 : decode cX5_back 21 = .ok (.iload_n 2, 1) := by decide +kernel
theorem dX5_back_22 : decode cX5_back 22 = .ok (.iaload, 1) := by decide +kernel
theorem dX5_back_23 : decode cX5_back 23 = .ok (.if_icmp .ne 7, 3) := by decide +kernel
theorem dX5_back_26 : decode cX5_back 26 = .ok (.iconst 0, 1) := by decide +kernel
theorem dX5_back_27 : decode cX5_back 27 = .ok (.goto 4, 3) := by decide +kernel
theorem dX5_back_30 : decode cX5_back 30 = .ok (.iconst 1, 1) := by decide +kernel
theorem dX5_back_31 : decode cX5_back 31 = .ok (.iadd, 1) := by decide +kernel
theorem dX5_back_32 : decode cX5_back 32 = .ok (.istore_n 1, 1) := by decide +kernel
theorem dX5_back_33 : decode cX5_back 33 = .ok (.aload_n 0, 1) := by decide +kernel
theorem dX5_back_34 : decode cX5_back 34 = .ok (.getfield 22, 3) := by decide +kernel
theorem dX5_back_37 : decode cX5_back 37 = .ok (.iload_n 2, 1) := by decide +kernel
theorem dX5_back_38 : decode cX5_back 38 = .ok (.aload_n 0, 1) := by decide +kernel
theorem dX5_back_39 : decode cX5_back 39 = .ok (.getfield 26, 3) := by decide +kernel
theorem dX5_back_42 : decode cX5_back 42 = .ok (.iload_n 2, 1) := by decide +kernel
theorem dX5_back_43 : decode cX5_back 43 = .ok (.iaload, 1) := by decide +kernel
theorem dX5_back_44 : decode cX5_back 44 = .ok (.iastore, 1) := by decide +kernel
theorem dX5_back_45 : decode cX5_back 45 = .ok (.iinc 2 1, 3) := by decide +kernel
theorem dX5_back_48 : decode cX5_back 48 = .ok (.goto (-44), 3) := by decide +kernel
theorem dX5_back_51 : decode cX5_back 51 = .ok (.iload_n 1, 1) := by decide +kernel
theorem dX5_back_52 : decode cX5_back 52 = .ok (.ireturn, 1) := by decide +kernel
theorem dX5_sixths_0 : decode cX5_sixths 0 = .ok (.iload_n 1, 1) := by decide +kernel
theorem dX5_sixths_1 : decode cX5_sixths 1 = .ok (.iconst 2, 1) := by decide +kernel
theorem dX5_sixths_2 : decode cX5_sixths 2 = .ok (.irem, 1) := by decide +kernel
theorem dX5_sixths_3 : decode cX5_sixths 3 = .ok (.iconst 1, 1) := by decide +kernel
theorem dX5_sixths_4 : decode cX5_sixths 4 = .ok (.if_icmp .ne 7, 3) := by decide +kernel
theorem dX5_sixths_7 : decode cX5_sixths 7 = .ok (.iload_n 1, 1) := by decide +kernel
theorem dX5_sixths_8 : decode cX5_sixths 8 = .ok (.goto 6, 3) := by decide +kernel
theorem dX5_sixths_11 : decode cX5_sixths 11 = .ok (.iload_n 1, 1) := by decide +kernel
theorem dX5_sixths_12 : decode cX5_sixths 12 = .ok (.iconst 1, 1) := by decide +kernel
theorem dX5_sixths_13 : decode cX5_sixths 13 = .ok (.isub, 1) := by decide +kernel
theorem dX5_sixths_14 : decode cX5_sixths 14 = .ok (.istore_n 2, 1) := by decide +kernel
theorem dX5_sixths_15 : decode cX5_sixths 15 = .ok (.lconst 0, 1) := by decide +kernel
theorem dX5_sixths_16 : decode cX5_sixths 16 = .ok (.lstore_n 3, 1) := by decide +kernel
theorem dX5_sixths_17 : decode cX5_sixths 17 = .ok (.iconst 0, 1) := by decide +kernel
theorem dX5_sixths_18 : decode cX5_sixths 18 = .ok (.istore 5, 2) := by decide +kernel
theorem dX5_sixths_20 : decode cX5_sixths 20 = .ok (.iload 5, 2) := by decide +kernel
theorem dX5_sixths_22 : decode cX5_sixths 22 = .ok (.iload_n 2, 1) := by decide +kernel
theorem dX5_sixths_23 : decode cX5_sixths 23 = .ok (.if_icmp .ge 58, 3) := by decide +kernel
theorem dX5_sixths_26 : decode cX5_sixths 26 = .ok (.lload_n 3, 1) := by decide +kernel
theorem dX5_sixths_27 : decode cX5_sixths 27 = .ok (.ldc2_w 168, 3) := by decide +kernel
theorem dX5_sixths_30 : decode cX5_sixths 30 = .ok (.aload_n 0, 1) := by decide +kernel
theorem dX5_sixths_31 : decode cX5_sixths 31 = .ok (.getfield 48, 3) := by decide +kernel
theorem dX5_sixths_34 : decode cX5_sixths 34 = .ok (.iload 5, 2) := by decide +kernel
theorem dX5_sixths_36 : decode cX5_sixths 36 = .ok (.laload, 1) := by decide +kernel
theorem dX5_sixths_37 : decode cX5_sixths 37 = .ok (.lmul, 1) := by decide +kernel
theorem dX5_sixths_38 : decode cX5_sixths 38 = .ok (.iload 5, 2) := by decide +kernel
theorem dX5_sixths_40 : decode cX5_sixths 40 = .ok (.ifCond .eq 11, 3) := by decide +kernel
theorem dX5_sixths_43 : decode cX5_sixths 43 = .ok (.iload 5, 2) := by decide +kernel
theorem dX5_sixths_45 : decode cX5_sixths 45 = .ok (.iload_n 2, 1) := by decide +kernel
theorem dX5_sixths_46 : decode cX5_sixths 46 = .ok (.iconst 1, 1) := by decide +kernel
theorem dX5_sixths_47 : decode cX5_sixths 47 = .ok (.isub, 1) := by decide +kernel
theorem dX5_sixths_48 : decode cX5_sixths 48 = .ok (.if_icmp .ne 7, 3) := by decide +kernel
theorem dX5_sixths_51 : decode cX5_sixths 51 = .ok (.lconst 1, 1) := by decide +kernel
theorem dX5_sixths_52 : decode cX5_sixths 52 = .ok (.goto 20, 3) := by decide +kernel
theorem dX5_sixths_55 : decode cX5_sixths 55 = .ok (.iload 5, 2) := by decide +kernel
theorem dX5_sixths_57 : decode cX5_sixths 57 = .ok (.iconst 2, 1) := by decide +kernel
theorem dX5_sixths_58 : decode cX5_sixths 58 = .ok (.irem, 1) := by decide +kernel
theorem dX5_sixths_59 : decode cX5_sixths 59 = .ok (.iconst 1, 1) := by decide +kernel
theorem dX5_sixths_60 : decode cX5_sixths 60 = .ok (.if_icmp .ne 9, 3) := by decide +kernel
theorem dX5_sixths_63 : decode cX5_sixths 63 = .ok (.ldc2_w 77, 3) := by decide +kernel
theorem dX5_sixths_66 : decode cX5_sixths 66 = .ok (.goto 6, 3) := by decide +kernel
theorem dX5_sixths_69 : decode cX5_sixths 69 = .ok (.ldc2_w 168, 3) := by decide +kernel
theorem dX5_sixths_72 : decode cX5_sixths 72 = .ok (.lmul, 1) := by decide +kernel
theorem dX5_sixths_73 : decode cX5_sixths 73 = .ok (.ladd, 1) := by decide +kernel
theorem dX5_sixths_74 : decode cX5_sixths 74 = .ok (.lstore_n 3, 1) := by decide +kernel
theorem dX5_sixths_75 : decode cX5_sixths 75 = .ok (.iinc 5 1, 3) := by decide +kernel
theorem dX5_sixths_78 : decode cX5_sixths 78 = .ok (.goto (-58), 3) := by decide +kernel
theorem dX5_sixths_81 : decode cX5_sixths 81 = .ok (.iload_n 2, 1) := by decide +kernel
theorem dX5_sixths_82 : decode cX5_sixths 82 = .ok (.iload_n 1, 1) := by decide +kernel
theorem dX5_sixths_83 : decode cX5_sixths 83 = .ok (.if_icmp .ne 7, 3) := by decide +kernel
theorem dX5_sixths_86 : decode cX5_sixths 86 = .ok (.lload_n 3, 1) := by decide +kernel
theorem dX5_sixths_87 : decode cX5_sixths 87 = .ok (.goto 26, 3) := by decide +kernel
theorem dX5_sixths_90 : decode cX5_sixths 90 = .ok (.lload_n 3, 1) := by decide +kernel
theorem dX5_sixths_91 : decode cX5_sixths 91 = .ok (.ldc2_w 89, 3) := by decide +kernel
theorem dX5_sixths_94 : decode cX5_sixths 94 = .ok (.aload_n 0, 1) := by decide +kernel
theorem dX5_sixths_95 : decode cX5_sixths 95 = .ok (.getfield 48, 3) := by decide +kernel
theorem dX5_sixths_98 : decode cX5_sixths 98 = .ok (.iload_n 1, 1) := by decide +kernel
theorem dX5_sixths_99 : decode cX5_sixths 99 = .ok (.iconst 2, 1) := by decide +kernel
theorem dX5_sixths_100 : decode cX5_sixths 100 = .ok (.isub, 1) := by decide +kernel
theorem dX5_sixths_101 : decode cX5_sixths 101 = .ok (.laload, 1) := by decide +kernel
theorem dX5_sixths_102 : decode cX5_sixths 102 = .ok (.aload_n 0, 1) := by decide +kernel
theorem dX5_sixths_103 : decode cX5_sixths 103 = .ok (.getfield 48, 3) := by decide +kernel
theorem dX5_sixths_106 : decode cX5_sixths 106 = .ok (.iload_n 1, 1) := by decide +kernel
theorem dX5_sixths_107 : decode cX5_sixths 107 = .ok (.iconst 1, 1) := by decide +kernel
theorem dX5_sixths_108 : decode cX5_sixths 108 = .ok (.isub, 1) := by decide +kernel
theorem dX5_sixths_109 : decode cX5_sixths 109 = .ok (.laload, 1) := by decide +kernel
theorem dX5_sixths_110 : decode cX5_sixths 110 = .ok (.ladd, 1) := by decide +kernel
theorem dX5_sixths_111 : decode cX5_sixths 111 = .ok (.lmul, 1) := by decide +kernel
theorem dX5_sixths_112 : decode cX5_sixths 112 = .ok (.ladd, 1) := by decide +kernel
theorem dX5_sixths_113 : decode cX5_sixths 113 = .ok (.lreturn, 1) := by decide +kernel
theorem dX5_told_0 : decode cX5_told 0 = .ok (.lload_n 0, 1) := by decide +kernel
theorem dX5_told_1 : decode cX5_told 1 = .ok (.lconst 0, 1) := by decide +kernel
theorem dX5_told_2 : decode cX5_told 2 = .ok (.lcmp, 1) := by decide +kernel
theorem dX5_told_3 : decode cX5_told 3 = .ok (.ifCond .ge 8, 3) := by decide +kernel
theorem dX5_told_6 : decode cX5_told 6 = .ok (.lload_n 0, 1) := by decide +kernel
theorem dX5_told_7 : decode cX5_told 7 = .ok (.lneg, 1) := by decide +kernel
theorem dX5_told_8 : decode cX5_told 8 = .ok (.goto 4, 3) := by decide +kernel
theorem dX5_told_11 : decode cX5_told 11 = .ok (.lload_n 0, 1) := by decide +kernel
theorem dX5_told_12 : decode cX5_told 12 = .ok (.lstore 5, 2) := by decide +kernel
theorem dX5_told_14 : decode cX5_told 14 = .ok (.lload_n 2, 1) := by decide +kernel
