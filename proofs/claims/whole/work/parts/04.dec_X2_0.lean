theorem dX2_init_0 : decode cX2_init 0 = .ok (.aload_n 0, 1) := by decide +kernel
theorem dX2_init_1 : decode cX2_init 1 = .ok (.invokespecial 5, 3) := by decide +kernel
theorem dX2_init_4 : decode cX2_init 4 = .ok (.aload_n 0, 1) := by decide +kernel
theorem dX2_init_5 : decode cX2_init 5 = .ok (.bipush 12, 2) := by decide +kernel
theorem dX2_init_7 : decode cX2_init 7 = .ok (.newarray .int, 2) := by decide +kernel
theorem dX2_init_9 : decode cX2_init 9 = .ok (.putfield 11, 3) := by decide +kernel
theorem dX2_init_12 : decode cX2_init 12 = .ok (.aload_n 0, 1) := by decide +kernel
theorem dX2_init_13 : decode cX2_init 13 = .ok (.bipush 12, 2) := by decide +kernel
theorem dX2_init_15 : decode cX2_init 15 = .ok (.newarray .int, 2) := by decide +kernel
theorem dX2_init_17 : decode cX2_init 17 = .ok (.putfield 15, 3) := by decide +kernel
theorem dX2_init_20 : decode cX2_init 20 = .ok (.aload_n 0, 1) := by decide +kernel
theorem dX2_init_21 : decode cX2_init 21 = .ok (.bipush 12, 2) := by decide +kernel
theorem dX2_init_23 : decode cX2_init 23 = .ok (.newarray .int, 2) := by decide +kernel
theorem dX2_init_25 : decode cX2_init 25 = .ok (.putfield 18, 3) := by decide +kernel
theorem dX2_init_28 : decode cX2_init 28 = .ok (.aload_n 0, 1) := by decide +kernel
theorem dX2_init_29 : decode cX2_init 29 = .ok (.bipush 12, 2) := by decide +kernel
theorem dX2_init_31 : decode cX2_init 31 = .ok (.newarray .int, 2) := by decide +kernel
theorem dX2_init_33 : decode cX2_init 33 = .ok (.putfield 21, 3) := by decide +kernel
theorem dX2_init_36 : decode cX2_init 36 = .ok (.aload_n 0, 1) := by decide +kernel
theorem dX2_init_37 : decode cX2_init 37 = .ok (.sipush 3430, 3) := by decide +kernel
theorem dX2_init_40 : decode cX2_init 40 = .ok (.newarray .int, 2) := by decide +kernel
theorem dX2_init_42 : decode cX2_init 42 = .ok (.putfield 24, 3) := by decide +kernel
theorem dX2_init_45 : decode cX2_init 45 = .ok (.return_, 1) := by decide +kernel
theorem dX2_place_0 : decode cX2_place 0 = .ok (.aload_n 0, 1) := by decide +kernel
theorem dX2_place_1 : decode cX2_place 1 = .ok (.getfield 11, 3) := by decide +kernel
theorem dX2_place_4 : decode cX2_place 4 = .ok (.iload_n 1, 1) := by decide +kernel
theorem dX2_place_5 : decode cX2_place 5 = .ok (.iconst 3, 1) := by decide +kernel
theorem dX2_place_6 : decode cX2_place 6 = .ok (.iadd, 1) := by decide +kernel
theorem dX2_place_7 : decode cX2_place 7 = .ok (.iload_n 2, 1) := by decide +kernel
theorem dX2_place_8 : decode cX2_place 8 = .ok (.iastore, 1) := by decide +kernel
theorem dX2_place_9 : decode cX2_place 9 = .ok (.aload_n 0, 1) := by decide +kernel
theorem dX2_place_10 : decode cX2_place 10 = .ok (.getfield 15, 3) := by decide +kernel
theorem dX2_place_13 : decode cX2_place 13 = .ok (.iload_n 1, 1) := by decide +kernel
theorem dX2_place_14 : decode cX2_place 14 = .ok (.iconst 3, 1) := by decide +kernel
theorem dX2_place_15 : decode cX2_place 15 = .ok (.iadd, 1) := by decide +kernel
theorem dX2_place_16 : decode cX2_place 16 = .ok (.iload_n 3, 1) := by decide +kernel
theorem dX2_place_17 : decode cX2_place 17 = .ok (.ineg, 1) := by decide +kernel
theorem dX2_place_18 : decode cX2_place 18 = .ok (.iload_n 2, 1) := by decide +kernel
theorem dX2_place_19 : decode cX2_place 19 = .ok (.ineg, 1) := by decide +kernel
theorem dX2_place_20 : decode cX2_place 20 = .ok (.invokestatic 27, 3) := by decide +kernel
theorem dX2_place_23 : decode cX2_place 23 = .ok (.iastore, 1) := by decide +kernel
theorem dX2_place_24 : decode cX2_place 24 = .ok (.aload_n 0, 1) := by decide +kernel
theorem dX2_place_25 : decode cX2_place 25 = .ok (.getfield 18, 3) := by decide +kernel
theorem dX2_place_28 : decode cX2_place 28 = .ok (.iload_n 1, 1) := by decide +kernel
theorem dX2_place_29 : decode cX2_place 29 = .ok (.iconst 3, 1) := by decide +kernel
theorem dX2_place_30 : decode cX2_place 30 = .ok (.iadd, 1) := by decide +kernel
theorem dX2_place_31 : decode cX2_place 31 = .ok (.iload_n 3, 1) := by decide +kernel
theorem dX2_place_32 : decode cX2_place 32 = .ok (.sipush 999, 3) := by decide +kernel
theorem dX2_place_35 : decode cX2_place 35 = .ok (.iload_n 2, 1) := by decide +kernel
theorem dX2_place_36 : decode cX2_place 36 = .ok (.isub, 1) := by decide +kernel
theorem dX2_place_37 : decode cX2_place 37 = .ok (.invokestatic 33, 3) := by decide +kernel
theorem dX2_place_40 : decode cX2_place 40 = .ok (.iastore, 1) := by decide +kernel
theorem dX2_place_41 : decode cX2_place 41 = .ok (.return_, 1) := by decide +kernel
theorem dX2_stay_0 : decode cX2_stay 0 = .ok (.iconst 0, 1) := by decide +kernel
theorem dX2_stay_1 : decode cX2_stay 1 = .ok (.istore_n 1, 1) := by decide +kernel
theorem dX2_stay_2 : decode cX2_stay 2 = .ok (.iload_n 1, 1) := by decide +kernel
theorem dX2_stay_3 : decode cX2_stay 3 = .ok (.aload_n 0, 1) := by decide +kernel
theorem dX2_stay_4 : decode cX2_stay 4 = .ok (.getfield 21, 3) := by decide +kernel
theorem dX2_stay_7 : decode cX2_stay 7 = .ok (.arraylength, 1) := by decide +kernel
theorem dX2_stay_8 : decode cX2_stay 8 = .ok (.if_icmp .ge 16, 3) := by decide +kernel
theorem dX2_stay_11 : decode cX2_stay 11 = .ok (.aload_n 0, 1) := by decide +kernel
theorem dX2_stay_12 : decode cX2_stay 12 = .ok (.getfield 21, 3) := by decide +kernel
theorem dX2_stay_15 : decode cX2_stay 15 = .ok (.iload_n 1, 1) := by decide +kernel
theorem dX2_stay_16 : decode cX2_stay 16 = .ok (.iconst 0, 1) := by decide +kernel
theorem dX2_stay_17 : decode cX2_stay 17 = .ok (.iastore, 1) := by decide +kernel
theorem dX2_stay_18 : decode cX2_stay 18 = .ok (.iinc 1 1, 3) := by decide +kernel
theorem dX2_stay_21 : decode cX2_stay 21 = .ok (.goto (-19), 3) := by decide +kernel
theorem dX2_stay_24 : decode cX2_stay 24 = .ok (.return_, 1) := by decide +kernel
theorem dX2_moveOf_0 : decode cX2_moveOf 0 = .ok (.aload_n 0, 1) := by decide +kernel
theorem dX2_moveOf_1 : decode cX2_moveOf 1 = .ok (.getfield 21, 3) := by decide +kernel
theorem dX2_moveOf_4 : decode cX2_moveOf 4 = .ok (.iload_n 1, 1) := by decide +kernel
theorem dX2_moveOf_5 : decode cX2_moveOf 5 = .ok (.iconst 3, 1) := by decide +kernel
theorem dX2_moveOf_6 : decode cX2_moveOf 6 = .ok (.iadd, 1) := by decide +kernel
theorem dX2_moveOf_7 : decode cX2_moveOf 7 = .ok (.iaload, 1) := by decide +kernel
theorem dX2_moveOf_8 : decode cX2_moveOf 8 = .ok (.ireturn, 1) := by decide +kernel
theorem dX2_seek_0 : decode cX2_seek 0 = .ok (.aload_n 0, 1) := by decide +kernel
theorem dX2_seek_1 : decode cX2_seek 1 = .ok (.iload_n 1, 1) := by decide +kernel
theorem dX2_seek_2 : decode cX2_seek 2 = .ok (.putfield 36, 3) := by decide +kernel
theorem dX2_seek_5 : decode cX2_seek 5 = .ok (.aload_n 0, 1) := by decide +kernel
theorem dX2_seek_6 : decode cX2_seek 6 = .ok (.iload_n 2, 1) := by decide +kernel
theorem dX2_seek_7 : decode cX2_seek 7 = .ok (.putfield 40, 3) := by decide +kernel
theorem dX2_seek_10 : decode cX2_seek 10 = .ok (.aload_n 0, 1) := by decide +kernel
theorem dX2_seek_11 : decode cX2_seek 11 = .ok (.getfield 36, 3) := by decide +kernel
theorem dX2_seek_14 : decode cX2_seek 14 = .ok (.iconst 1, 1) := by decide +kernel
theorem dX2_seek_15 : decode cX2_seek 15 = .ok (.isub, 1) := by decide +kernel
theorem dX2_seek_16 : decode cX2_seek 16 = .ok (.istore_n 3, 1) := by decide +kernel
theorem dX2_seek_17 : decode cX2_seek 17 = .ok (.iload_n 3, 1) := by decide +kernel
theorem dX2_seek_18 : decode cX2_seek 18 = .ok (.ifCond .lt 14, 3) := by decide +kernel
theorem dX2_seek_21 : decode cX2_seek 21 = .ok (.aload_n 0, 1) := by decide +kernel
theorem dX2_seek_22 : decode cX2_seek 22 = .ok (.iload_n 3, 1) := by decide +kernel
theorem dX2_seek_23 : decode cX2_seek 23 = .ok (.invokevirtual 43, 3) := by decide +kernel
theorem dX2_seek_26 : decode cX2_seek 26 = .ok (.iinc 3 (-1), 3) := by decide +kernel
theorem dX2_seek_29 : decode cX2_seek 29 = .ok (.goto (-12), 3) := by decide +kernel
theorem dX2_seek_32 : decode cX2_seek 32 = .ok (.aload_n 0, 1) := by decide +kernel
theorem dX2_seek_33 : decode cX2_seek 33 = .ok (.getfield 24, 3) := by decide +kernel
theorem dX2_seek_36 : decode cX2_seek 36 = .ok (.aload_n 0, 1) := by decide +kernel
theorem dX2_seek_37 : decode cX2_seek 37 = .ok (.iconst 0, 1) := by decide +kernel
theorem dX2_seek_38 : decode cX2_seek 38 = .ok (.iconst 0, 1) := by decide +kernel
theorem dX2_seek_39 : decode cX2_seek 39 = .ok (.iconst 0, 1) := by decide +kernel
theorem dX2_seek_40 : decode cX2_seek 40 = .ok (.iconst 0, 1) := by decide +kernel
theorem dX2_seek_41 : decode cX2_seek 41 = .ok (.invokevirtual 47, 3) := by decide +kernel
theorem dX2_seek_44 : decode cX2_seek 44 = .ok (.iaload, 1) := by decide +kernel
theorem dX2_seek_45 : decode cX2_seek 45 = .ok (.istore_n 3, 1) := by decide +kernel
theorem dX2_seek_46 : decode cX2_seek 46 = .ok (.iload_n 3, 1) := by decide +kernel
theorem dX2_seek_47 : decode cX2_seek 47 = .ok (.sipush 1000, 3) := by decide +kernel
theorem dX2_seek_50 : decode cX2_seek 50 = .ok (.if_icmp .lt 6, 3) := by decide +kernel
theorem dX2_seek_53 : decode cX2_seek 53 = .ok (.bipush (-9), 2) := by decide +kernel
theorem dX2_seek_55 : decode cX2_seek 55 = .ok (.ireturn, 1) := by decide +kernel
theorem dX2_seek_56 : decode cX2_seek 56 = .ok (.iconst 0, 1) := by decide +kernel
theorem dX2_seek_57 : decode cX2_seek 57 = .ok (.istore 4, 2) := by decide +kernel
theorem dX2_seek_59 : decode cX2_seek 59 = .ok (.iload 4, 2) := by decide +kernel
theorem dX2_seek_61 : decode cX2_seek 61 = .ok (.aload_n 0, 1) := by decide +kernel
theorem dX2_seek_62 : decode cX2_seek 62 = .ok (.getfield 36, 3) := by decide +kernel
theorem dX2_seek_65 : decode cX2_seek 65 = .ok (.if_icmp .ge 49, 3) := by decide +kernel
theorem dX2_seek_68 : decode cX2_seek 68 = .ok (.aload_n 0, 1) := by decide +kernel
theorem dX2_seek_69 : decode cX2_seek 69 = .ok (.getfield 21, 3) := by decide +kernel
theorem dX2_seek_72 : decode cX2_seek 72 = .ok (.iload 4, 2) := by decide +kernel
theorem dX2_seek_74 : decode cX2_seek 74 = .ok (.iconst 3, 1) := by decide +kernel
theorem dX2_seek_75 : decode cX2_seek 75 = .ok (.iadd, 1) := by decide +kernel
theorem dX2_seek_76 : decode cX2_seek 76 = .ok (.aload_n 0, 1) := by decide +kernel
theorem dX2_seek_77 : decode cX2_seek 77 = .ok (.iload 4, 2) := by decide +kernel
theorem dX2_seek_79 : decode cX2_seek 79 = .ok (.aload_n 0, 1) := by decide +kernel
theorem dX2_seek_80 : decode cX2_seek 80 = .ok (.getfield 21, 3) := by decide +kernel
theorem dX2_seek_83 : decode cX2_seek 83 = .ok (.iload 4, 2) := by decide +kernel
theorem dX2_seek_85 : decode cX2_seek 85 = .ok (.iaload, 1) := by decide +kernel
theorem dX2_seek_86 : decode cX2_seek 86 = .ok (.aload_n 0, 1) := by decide +kernel
theorem dX2_seek_87 : decode cX2_seek 87 = .ok (.getfield 21, 3) := by decide +kernel
theorem dX2_seek_90 : decode cX2_seek 90 = .ok (.iload 4, 2) := by decide +kernel
theorem dX2_seek_92 : decode cX2_seek 92 = .ok (.iconst 1, 1) := by decide +kernel
theorem dX2_seek_93 : decode cX2_seek 93 = .ok (.iadd, 1) := by decide +kernel
theorem dX2_seek_94 : decode cX2_seek 94 = .ok (.iaload, 1) := by decide +kernel
theorem dX2_seek_95 : decode cX2_seek 95 = .ok (.aload_n 0, 1) := by decide +kernel
theorem dX2_seek_96 : decode cX2_seek 96 = .ok (.getfield 21, 3) := by decide +kernel
theorem dX2_seek_99 : decode cX2_seek 99 = .ok (.iload 4, 2) := by decide +kernel
theorem dX2_seek_101 : decode cX2_seek 101 = .ok (.iconst 2, 1) := by decide +kernel
theorem dX2_seek_102 : decode cX2_seek 102 = .ok (.iadd, 1) := by decide +kernel
theorem dX2_seek_103 : decode cX2_seek 103 = .ok (.iaload, 1) := by decide +kernel
theorem dX2_seek_104 : decode cX2_seek 104 = .ok (.invokevirtual 51, 3) := by decide +kernel
theorem dX2_seek_107 : decode cX2_seek 107 = .ok (.iastore, 1) := by decide +kernel
theorem dX2_seek_108 : decode cX2_seek 108 = .ok (.iinc 4 1, 3) := by decide +kernel
theorem dX2_seek_111 : decode cX2_seek 111 = .ok (.goto (-52), 3) := by decide +kernel
theorem dX2_seek_114 : decode cX2_seek 114 = .ok (.iload_n 3, 1) := by decide +kernel
theorem dX2_seek_115 : decode cX2_seek 115 = .ok (.ireturn, 1) := by decide +kernel
theorem dX2_keepFewest_0 : decode cX2_keepFewest 0 = .ok (.aload_n 0, 1) := by decide +kernel
theorem dX2_keepFewest_1 : decode cX2_keepFewest 1 = .ok (.getfield 15, 3) := by decide +kernel
theorem dX2_keepFewest_4 : decode cX2_keepFewest 4 = .ok (.iload_n 1, 1) := by decide +kernel
theorem dX2_keepFewest_5 : decode cX2_keepFewest 5 = .ok (.iaload, 1) := by decide +kernel
theorem dX2_keepFewest_6 : decode cX2_keepFewest 6 = .ok (.istore_n 2, 1) := by decide +kernel
theorem dX2_keepFewest_7 : decode cX2_keepFewest 7 = .ok (.iload_n 2, 1) := by decide +kernel
theorem dX2_keepFewest_8 : decode cX2_keepFewest 8 = .ok (.aload_n 0, 1) := by decide +kernel
theorem dX2_keepFewest_9 : decode cX2_keepFewest 9 = .ok (.getfield 18, 3) := by decide +kernel
theorem dX2_keepFewest_12 : decode cX2_keepFewest 12 = .ok (.iload_n 1, 1) := by decide +kernel
theorem dX2_keepFewest_13 : decode cX2_keepFewest 13 = .ok (.iaload, 1) := by decide +kernel
theorem dX2_keepFewest_14 : decode cX2_keepFewest 14 = .ok (.if_icmp .gt 88, 3) := by decide +kernel
theorem dX2_keepFewest_17 : decode cX2_keepFewest 17 = .ok (.aload_n 0, 1) := by decide +kernel
theorem dX2_keepFewest_18 : decode cX2_keepFewest 18 = .ok (.getfield 15, 3) := by decide +kernel
theorem dX2_keepFewest_21 : decode cX2_keepFewest 21 = .ok (.iload_n 1, 1) := by decide +kernel
theorem dX2_keepFewest_22 : decode cX2_keepFewest 22 = .ok (.iconst 1, 1) := by decide +kernel
theorem dX2_keepFewest_23 : decode cX2_keepFewest 23 = .ok (.iadd, 1) := by decide +kernel
theorem dX2_keepFewest_24 : decode cX2_keepFewest 24 = .ok (.iaload, 1) := by decide +kernel
theorem dX2_keepFewest_25 : decode cX2_keepFewest 25 = .ok (.istore_n 3, 1) := by decide +kernel
theorem dX2_keepFewest_26 : decode cX2_keepFewest 26 = .ok (.iload_n 3, 1) := by decide +kernel
theorem dX2_keepFewest_27 : decode cX2_keepFewest 27 = .ok (.aload_n 0, 1) := by decide +kernel
theorem dX2_keepFewest_28 : decode cX2_keepFewest 28 = .ok (.getfield 18, 3) := by decide +kernel
theorem dX2_keepFewest_31 : decode cX2_keepFewest 31 = .ok (.iload_n 1, 1) := by decide +kernel
theorem dX2_keepFewest_32 : decode cX2_keepFewest 32 = .ok (.iconst 1, 1) := by decide +kernel
theorem dX2_keepFewest_33 : decode cX2_keepFewest 33 = .ok (.iadd, 1) := by decide +kernel
theorem dX2_keepFewest_34 : decode cX2_keepFewest 34 = .ok (.iaload, 1) := by decide +kernel
theorem dX2_keepFewest_35 : decode cX2_keepFewest 35 = .ok (.if_icmp .gt 61, 3) := by decide +kernel
theorem dX2_keepFewest_38 : decode cX2_keepFewest 38 = .ok (.aload_n 0, 1) := by decide +kernel
theorem dX2_keepFewest_39 : decode cX2_keepFewest 39 = .ok (.getfield 15, 3) := by decide +kernel
theorem dX2_keepFewest_42 : decode cX2_keepFewest 42 = .ok (.iload_n 1, 1) := by decide +kernel
theorem dX2_keepFewest_43 : decode cX2_keepFewest 43 = .ok (.iconst 2, 1) := by decide +kernel
theorem dX2_keepFewest_44 : decode cX2_keepFewest 44 = .ok (.iadd, 1) := by decide +kernel
theorem dX2_keepFewest_45 : decode cX2_keepFewest 45 = .ok (.iaload, 1) := by decide +kernel
theorem dX2_keepFewest_46 : decode cX2_keepFewest 46 = .ok (.istore 4, 2) := by decide +kernel
theorem dX2_keepFewest_48 : decode cX2_keepFewest 48 = .ok (.iload 4, 2) := by decide +kernel
theorem dX2_keepFewest_50 : decode cX2_keepFewest 50 = .ok (.aload_n 0, 1) := by decide +kernel
theorem dX2_keepFewest_51 : decode cX2_keepFewest 51 = .ok (.getfield 18, 3) := by decide +kernel
theorem dX2_keepFewest_54 : decode cX2_keepFewest 54 = .ok (.iload_n 1, 1) := by decide +kernel
theorem dX2_keepFewest_55 : decode cX2_keepFewest 55 = .ok (.iconst 2, 1) := by decide +kernel
theorem dX2_keepFewest_56 : decode cX2_keepFewest 56 = .ok (.iadd, 1) := by decide +kernel
theorem dX2_keepFewest_57 : decode cX2_keepFewest 57 = .ok (.iaload, 1) := by decide +kernel
theorem dX2_keepFewest_58 : decode cX2_keepFewest 58 = .ok (.if_icmp .gt 32, 3) := by decide +kernel
theorem dX2_keepFewest_61 : decode cX2_keepFewest 61 = .ok (.aload_n 0, 1) := by decide +kernel
theorem dX2_keepFewest_62 : decode cX2_keepFewest 62 = .ok (.getfield 24, 3) := by decide +kernel
theorem dX2_keepFewest_65 : decode cX2_keepFewest 65 = .ok (.aload_n 0, 1) := by decide +kernel
theorem dX2_keepFewest_66 : decode cX2_keepFewest 66 = .ok (.iload_n 1, 1) := by decide +kernel
theorem dX2_keepFewest_67 : decode cX2_keepFewest 67 = .ok (.iload_n 2, 1) := by decide +kernel
theorem dX2_keepFewest_68 : decode cX2_keepFewest 68 = .ok (.iload_n 3, 1) := by decide +kernel
theorem dX2_keepFewest_69 : decode cX2_keepFewest 69 = .ok (.iload 4, 2) := by decide +kernel
theorem dX2_keepFewest_71 : decode cX2_keepFewest 71 = .ok (.invokevirtual 47, 3) := by decide +kernel
theorem dX2_keepFewest_74 : decode cX2_keepFewest 74 = .ok (.aload_n 0, 1) := by decide +kernel
theorem dX2_keepFewest_75 : decode cX2_keepFewest 75 = .ok (.iload_n 1, 1) := by decide +kernel
theorem dX2_keepFewest_76 : decode cX2_keepFewest 76 = .ok (.iload_n 2, 1) := by decide +kernel
theorem dX2_keepFewest_77 : decode cX2_keepFewest 77 = .ok (.iload_n 3, 1) := by decide +kernel
theorem dX2_keepFewest_78 : decode cX2_keepFewest 78 = .ok (.iload 4, 2) := by decide +kernel
theorem dX2_keepFewest_80 : decode cX2_keepFewest 80 = .ok (.invokevirtual 54, 3) := by decide +kernel
theorem dX2_keepFewest_83 : decode cX2_keepFewest 83 = .ok (.iastore, 1) := by decide +kernel
theorem dX2_keepFewest_84 : decode cX2_keepFewest 84 = .ok (.iinc 4 1, 3) := by decide +kernel
theorem dX2_keepFewest_87 : decode cX2_keepFewest 87 = .ok (.goto (-39), 3) := by decide +kernel
theorem dX2_keepFewest_90 : decode cX2_keepFewest 90 = .ok (.iinc 3 1, 3) := by decide +kernel
theorem dX2_keepFewest_93 : decode cX2_keepFewest 93 = .ok (.goto (-67), 3) := by decide +kernel
theorem dX2_keepFewest_96 : decode cX2_keepFewest 96 = .ok (.iinc 2 1, 3) := by decide +kernel
theorem dX2_keepFewest_99 : decode cX2_keepFewest 99 = .ok (.goto (-92), 3) := by decide +kernel
theorem dX2_keepFewest_102 : decode cX2_keepFewest 102 = .ok (.return_, 1) := by decide +kernel
theorem dX2_fewestFrom_0 : decode cX2_fewestFrom 0 = .ok (.aload_n 0, 1) := by decide +kernel
theorem dX2_fewestFrom_1 : decode cX2_fewestFrom 1 = .ok (.iload_n 1, 1) := by decide +kernel
theorem dX2_fewestFrom_2 : decode cX2_fewestFrom 2 = .ok (.iconst 1, 1) := by decide +kernel
theorem dX2_fewestFrom_3 : decode cX2_fewestFrom 3 = .ok (.iadd, 1) := by decide +kernel
theorem dX2_fewestFrom_4 : decode cX2_fewestFrom 4 = .ok (.iload_n 3, 1) := by decide +kernel
theorem dX2_fewestFrom_5 : decode cX2_fewestFrom 5 = .ok (.iload 4, 2) := by decide +kernel
theorem dX2_fewestFrom_7 : decode cX2_fewestFrom 7 = .ok (.iconst 0, 1) := by decide +kernel
theorem dX2_fewestFrom_8 : decode cX2_fewestFrom 8 = .ok (.invokevirtual 47, 3) := by decide +kernel
theorem dX2_fewestFrom_11 : decode cX2_fewestFrom 11 = .ok (.istore 5, 2) := by decide +kernel
theorem dX2_fewestFrom_13 : decode cX2_fewestFrom 13 = .ok (.aload_n 0, 1) := by decide +kernel
theorem dX2_fewestFrom_14 : decode cX2_fewestFrom 14 = .ok (.iload_n 1, 1) := by decide +kernel
theorem dX2_fewestFrom_15 : decode cX2_fewestFrom 15 = .ok (.iload_n 2, 1) := by decide +kernel
theorem dX2_fewestFrom_16 : decode cX2_fewestFrom 16 = .ok (.iload_n 3, 1) := by decide +kernel
theorem dX2_fewestFrom_17 : decode cX2_fewestFrom 17 = .ok (.iload 4, 2) := by decide +kernel
theorem dX2_fewestFrom_19 : decode cX2_fewestFrom 19 = .ok (.invokevirtual 57, 3) := by decide +kernel
theorem dX2_fewestFrom_22 : decode cX2_fewestFrom 22 = .ok (.istore 6, 2) := by decide +kernel
theorem dX2_fewestFrom_24 : decode cX2_fewestFrom 24 = .ok (.aload_n 0, 1) := by decide +kernel
theorem dX2_fewestFrom_25 : decode cX2_fewestFrom 25 = .ok (.iload_n 1, 1) := by decide +kernel
theorem dX2_fewestFrom_26 : decode cX2_fewestFrom 26 = .ok (.iload 6, 2) := by decide +kernel
theorem dX2_fewestFrom_28 : decode cX2_fewestFrom 28 = .ok (.invokevirtual 60, 3) := by decide +kernel
theorem dX2_fewestFrom_31 : decode cX2_fewestFrom 31 = .ok (.istore 7, 2) := by decide +kernel
theorem dX2_fewestFrom_33 : decode cX2_fewestFrom 33 = .ok (.sipush 1000, 3) := by decide +kernel
theorem dX2_fewestFrom_36 : decode cX2_fewestFrom 36 = .ok (.istore 8, 2) := by decide +kernel
theorem dX2_fewestFrom_38 : decode cX2_fewestFrom 38 = .ok (.aload_n 0, 1) := by decide +kernel
theorem dX2_fewestFrom_39 : decode cX2_fewestFrom 39 = .ok (.iload_n 1, 1) := by decide +kernel
theorem dX2_fewestFrom_40 : decode cX2_fewestFrom 40 = .ok (.iload 6, 2) := by decide +kernel
theorem dX2_fewestFrom_42 : decode cX2_fewestFrom 42 = .ok (.invokevirtual 63, 3) := by decide +kernel
theorem dX2_fewestFrom_45 : decode cX2_fewestFrom 45 = .ok (.istore 9, 2) := by decide +kernel
theorem dX2_fewestFrom_47 : decode cX2_fewestFrom 47 = .ok (.iload 9, 2) := by decide +kernel
theorem dX2_fewestFrom_49 : decode cX2_fewestFrom 49 = .ok (.iload 7, 2) := by decide +kernel
theorem dX2_fewestFrom_51 : decode cX2_fewestFrom 51 = .ok (.if_icmp .gt 32, 3) := by decide +kernel
theorem dX2_fewestFrom_54 : decode cX2_fewestFrom 54 = .ok (.iload 8, 2) := by decide +kernel
theorem dX2_fewestFrom_56 : decode cX2_fewestFrom 56 = .ok (.iload 9, 2) := by decide +kernel
theorem dX2_fewestFrom_58 : decode cX2_fewestFrom 58 = .ok (.invokestatic 66, 3) := by decide +kernel
theorem dX2_fewestFrom_61 : decode cX2_fewestFrom 61 = .ok (.aload_n 0, 1) := by decide +kernel
theorem dX2_fewestFrom_62 : decode cX2_fewestFrom 62 = .ok (.getfield 24, 3) := by decide +kernel
theorem dX2_fewestFrom_65 : decode cX2_fewestFrom 65 = .ok (.iload 5, 2) := by decide +kernel
theorem dX2_fewestFrom_67 : decode cX2_fewestFrom 67 = .ok (.iload 9, 2) := by decide +kernel
theorem dX2_fewestFrom_69 : decode cX2_fewestFrom 69 = .ok (.iadd, 1) := by decide +kernel
theorem dX2_fewestFrom_70 : decode cX2_fewestFrom 70 = .ok (.iaload, 1) := by decide +kernel
theorem dX2_fewestFrom_71 : decode cX2_fewestFrom 71 = .ok (.iadd, 1) := by decide +kernel
theorem dX2_fewestFrom_72 : decode cX2_fewestFrom 72 = .ok (.invokestatic 33, 3) := by decide +kernel
theorem dX2_fewestFrom_75 : decode cX2_fewestFrom 75 = .ok (.istore 8, 2) := by decide +kernel
theorem dX2_fewestFrom_77 : decode cX2_fewestFrom 77 = .ok (.iinc 9 1, 3) := by decide +kernel
theorem dX2_fewestFrom_80 : decode cX2_fewestFrom 80 = .ok (.goto (-33), 3) := by decide +kernel
theorem dX2_fewestFrom_83 : decode cX2_fewestFrom 83 = .ok (.iload 8, 2) := by decide +kernel
theorem dX2_fewestFrom_85 : decode cX2_fewestFrom 85 = .ok (.ireturn, 1) := by decide +kernel
theorem dX2_firstLeading_0 : decode cX2_firstLeading 0 = .ok (.aload_n 0, 1) := by decide +kernel
theorem dX2_firstLeading_1 : decode cX2_firstLeading 1 = .ok (.getfield 24, 3) := by decide +kernel
theorem dX2_firstLeading_4 : decode cX2_firstLeading 4 = .ok (.aload_n 0, 1) := by decide +kernel
theorem dX2_firstLeading_5 : decode cX2_firstLeading 5 = .ok (.iload_n 1, 1) := by decide +kernel
theorem dX2_firstLeading_6 : decode cX2_firstLeading 6 = .ok (.iload_n 2, 1) := by decide +kernel
theorem dX2_firstLeading_7 : decode cX2_firstLeading 7 = .ok (.iload_n 3, 1) := by decide +kernel
theorem dX2_firstLeading_8 : decode cX2_firstLeading 8 = .ok (.iload 4, 2) := by decide +kernel
theorem dX2_firstLeading_10 : decode cX2_firstLeading 10 = .ok (.invokevirtual 47, 3) := by decide +kernel
theorem dX2_firstLeading_13 : decode cX2_firstLeading 13 = .ok (.iaload, 1) := by decide +kernel
theorem dX2_firstLeading_14 : decode cX2_firstLeading 14 = .ok (.istore 5, 2) := by decide +kernel
theorem dX2_firstLeading_16 : decode cX2_firstLeading 16 = .ok (.aload_n 0, 1) := by decide +kernel
theorem dX2_firstLeading_17 : decode cX2_firstLeading 17 = .ok (.iload_n 1, 1) := by decide +kernel
theorem dX2_firstLeading_18 : decode cX2_firstLeading 18 = .ok (.iconst 1, 1) := by decide +kernel
theorem dX2_firstLeading_19 : decode cX2_firstLeading 19 = .ok (.iadd, 1) := by decide +kernel
theorem dX2_firstLeading_20 : decode cX2_firstLeading 20 = .ok (.iload_n 3, 1) := by decide +kernel
theorem dX2_firstLeading_21 : decode cX2_firstLeading 21 = .ok (.iload 4, 2) := by decide +kernel
theorem dX2_firstLeading_23 : decode cX2_firstLeading 23 = .ok (.iconst 0, 1) := by decide +kernel
theorem dX2_firstLeading_24 : decode cX2_firstLeading 24 = .ok (.invokevirtual 47, 3) := by decide +kernel
theorem dX2_firstLeading_27 : decode cX2_firstLeading 27 = .ok (.istore 6, 2) := by decide +kernel
theorem dX2_firstLeading_29 : decode cX2_firstLeading 29 = .ok (.aload_n 0, 1) := by decide +kernel
theorem dX2_firstLeading_30 : decode cX2_firstLeading 30 = .ok (.iload_n 1, 1) := by decide +kernel
theorem dX2_firstLeading_31 : decode cX2_firstLeading 31 = .ok (.iload_n 2, 1) := by decide +kernel
theorem dX2_firstLeading_32 : decode cX2_firstLeading 32 = .ok (.iload_n 3, 1) := by decide +kernel
theorem dX2_firstLeading_33 : decode cX2_firstLeading 33 = .ok (.iload 4, 2) := by decide +kernel
theorem dX2_firstLeading_35 : decode cX2_firstLeading 35 = .ok (.invokevirtual 57, 3) := by decide +kernel
theorem dX2_firstLeading_38 : decode cX2_firstLeading 38 = .ok (.istore 7, 2) := by decide +kernel
theorem dX2_firstLeading_40 : decode cX2_firstLeading 40 = .ok (.aload_n 0, 1) := by decide +kernel
theorem dX2_firstLeading_41 : decode cX2_firstLeading 41 = .ok (.iload_n 1, 1) := by decide +kernel
theorem dX2_firstLeading_42 : decode cX2_firstLeading 42 = .ok (.iload 7, 2) := by decide +kernel
theorem dX2_firstLeading_44 : decode cX2_firstLeading 44 = .ok (.invokevirtual 60, 3) := by decide +kernel
theorem dX2_firstLeading_47 : decode cX2_firstLeading 47 = .ok (.istore 8, 2) := by decide +kernel
theorem dX2_firstLeading_49 : decode cX2_firstLeading 49 = .ok (.aload_n 0, 1) := by decide +kernel
theorem dX2_firstLeading_50 : decode cX2_firstLeading 50 = .ok (.iload_n 1, 1) := by decide +kernel
theorem dX2_firstLeading_51 : decode cX2_firstLeading 51 = .ok (.iload 7, 2) := by decide +kernel
theorem dX2_firstLeading_53 : decode cX2_firstLeading 53 = .ok (.invokevirtual 63, 3) := by decide +kernel
theorem dX2_firstLeading_56 : decode cX2_firstLeading 56 = .ok (.istore 9, 2) := by decide +kernel
theorem dX2_firstLeading_58 : decode cX2_firstLeading 58 = .ok (.iload 9, 2) := by decide +kernel
theorem dX2_firstLeading_60 : decode cX2_firstLeading 60 = .ok (.iload 8, 2) := by decide +kernel
theorem dX2_firstLeading_62 : decode cX2_firstLeading 62 = .ok (.if_icmp .ge 30, 3) := by decide +kernel
theorem dX2_firstLeading_65 : decode cX2_firstLeading 65 = .ok (.iload 9, 2) := by decide +kernel
theorem dX2_firstLeading_67 : decode cX2_firstLeading 67 = .ok (.invokestatic 66, 3) := by decide +kernel
theorem dX2_firstLeading_70 : decode cX2_firstLeading 70 = .ok (.aload_n 0, 1) := by decide +kernel
theorem dX2_firstLeading_71 : decode cX2_firstLeading 71 = .ok (.getfield 24, 3) := by decide +kernel
theorem dX2_firstLeading_74 : decode cX2_firstLeading 74 = .ok (.iload 6, 2) := by decide +kernel
theorem dX2_firstLeading_76 : decode cX2_firstLeading 76 = .ok (.iload 9, 2) := by decide +kernel
theorem dX2_firstLeading_78 : decode cX2_firstLeading 78 = .ok (.iadd, 1) := by decide +kernel
theorem dX2_firstLeading_79 : decode cX2_firstLeading 79 = .ok (.iaload, 1) := by decide +kernel
theorem dX2_firstLeading_80 : decode cX2_firstLeading 80 = .ok (.iadd, 1) := by decide +kernel
theorem dX2_firstLeading_81 : decode cX2_firstLeading 81 = .ok (.iload 5, 2) := by decide +kernel
theorem dX2_firstLeading_83 : decode cX2_firstLeading 83 = .ok (.if_icmp .eq 9, 3) := by decide +kernel
theorem dX2_firstLeading_86 : decode cX2_firstLeading 86 = .ok (.iinc 9 1, 3) := by decide +kernel
theorem dX2_firstLeading_89 : decode cX2_firstLeading 89 = .ok (.goto (-31), 3) := by decide +kernel
theorem dX2_firstLeading_92 : decode cX2_firstLeading 92 = .ok (.iload 9, 2) := by decide +kernel
theorem dX2_firstLeading_94 : decode cX2_firstLeading 94 = .ok (.ireturn, 1) := by decide +kernel
theorem dX2_jumpUnmoved_0 : decode cX2_jumpUnmoved 0 = .ok (.iload_n 1, 1) := by decide +kernel
theorem dX2_jumpUnmoved_1 : decode cX2_jumpUnmoved 1 = .ok (.iconst 3, 1) := by decide +kernel
theorem dX2_jumpUnmoved_2 : decode cX2_jumpUnmoved 2 = .ok (.if_icmp .ge 5, 3) := by decide +kernel
theorem dX2_jumpUnmoved_5 : decode cX2_jumpUnmoved 5 = .ok (.iconst 0, 1) := by decide +kernel
theorem dX2_jumpUnmoved_6 : decode cX2_jumpUnmoved 6 = .ok (.ireturn, 1) := by decide +kernel
theorem dX2_jumpUnmoved_7 : decode cX2_jumpUnmoved 7 = .ok (.aload_n 0, 1) := by decide +kernel
theorem dX2_jumpUnmoved_8 : decode cX2_jumpUnmoved 8 = .ok (.getfield 11, 3) := by decide +kernel
theorem dX2_jumpUnmoved_11 : decode cX2_jumpUnmoved 11 = .ok (.iload_n 1, 1) := by decide +kernel
theorem dX2_jumpUnmoved_12 : decode cX2_jumpUnmoved 12 = .ok (.iconst 3, 1) := by decide +kernel
theorem dX2_jumpUnmoved_13 : decode cX2_jumpUnmoved 13 = .ok (.iadd, 1) := by decide +kernel
theorem dX2_jumpUnmoved_14 : decode cX2_jumpUnmoved 14 = .ok (.iaload, 1) := by decide +kernel
theorem dX2_jumpUnmoved_15 : decode cX2_jumpUnmoved 15 = .ok (.iconst 3, 1) := by decide +kernel
theorem dX2_jumpUnmoved_16 : decode cX2_jumpUnmoved 16 = .ok (.aload_n 0, 1) := by decide +kernel
theorem dX2_jumpUnmoved_17 : decode cX2_jumpUnmoved 17 = .ok (.getfield 11, 3) := by decide +kernel
theorem dX2_jumpUnmoved_20 : decode cX2_jumpUnmoved 20 = .ok (.iload_n 1, 1) := by decide +kernel
theorem dX2_jumpUnmoved_21 : decode cX2_jumpUnmoved 21 = .ok (.iconst 2, 1) := by decide +kernel
theorem dX2_jumpUnmoved_22 : decode cX2_jumpUnmoved 22 = .ok (.iadd, 1) := by decide +kernel
theorem dX2_jumpUnmoved_23 : decode cX2_jumpUnmoved 23 = .ok (.iaload, 1) := by decide +kernel
theorem dX2_jumpUnmoved_24 : decode cX2_jumpUnmoved 24 = .ok (.iload 4, 2) := by decide +kernel
theorem dX2_jumpUnmoved_26 : decode cX2_jumpUnmoved 26 = .ok (.iadd, 1) := by decide +kernel
theorem dX2_jumpUnmoved_27 : decode cX2_jumpUnmoved 27 = .ok (.imul, 1) := by decide +kernel
theorem dX2_jumpUnmoved_28 : decode cX2_jumpUnmoved 28 = .ok (.isub, 1) := by decide +kernel
theorem dX2_jumpUnmoved_29 : decode cX2_jumpUnmoved 29 = .ok (.iconst 3, 1) := by decide +kernel
theorem dX2_jumpUnmoved_30 : decode cX2_jumpUnmoved 30 = .ok (.aload_n 0, 1) := by decide +kernel
theorem dX2_jumpUnmoved_31 : decode cX2_jumpUnmoved 31 = .ok (.getfield 11, 3) := by decide +kernel
theorem dX2_jumpUnmoved_34 : decode cX2_jumpUnmoved 34 = .ok (.iload_n 1, 1) := by decide +kernel
theorem dX2_jumpUnmoved_35 : decode cX2_jumpUnmoved 35 = .ok (.iconst 1, 1) := by decide +kernel
theorem dX2_jumpUnmoved_36 : decode cX2_jumpUnmoved 36 = .ok (.iadd, 1) := by decide +kernel
theorem dX2_jumpUnmoved_37 : decode cX2_jumpUnmoved 37 = .ok (.iaload, 1) := by decide +kernel
theorem dX2_jumpUnmoved_38 : decode cX2_jumpUnmoved 38 = .ok (.iload_n 3, 1) := by decide +kernel
theorem dX2_jumpUnmoved_39 : decode cX2_jumpUnmoved 39 = .ok (.iadd, 1) := by decide +kernel
theorem dX2_jumpUnmoved_40 : decode cX2_jumpUnmoved 40 = .ok (.imul, 1) := by decide +kernel
theorem dX2_jumpUnmoved_41 : decode cX2_jumpUnmoved 41 = .ok (.iadd, 1) := by decide +kernel
theorem dX2_jumpUnmoved_42 : decode cX2_jumpUnmoved 42 = .ok (.aload_n 0, 1) := by decide +kernel
theorem dX2_jumpUnmoved_43 : decode cX2_jumpUnmoved 43 = .ok (.getfield 11, 3) := by decide +kernel
theorem dX2_jumpUnmoved_46 : decode cX2_jumpUnmoved 46 = .ok (.iload_n 1, 1) := by decide +kernel
theorem dX2_jumpUnmoved_47 : decode cX2_jumpUnmoved 47 = .ok (.iaload, 1) := by decide +kernel
theorem dX2_jumpUnmoved_48 : decode cX2_jumpUnmoved 48 = .ok (.iload_n 2, 1) := by decide +kernel
theorem dX2_jumpUnmoved_49 : decode cX2_jumpUnmoved 49 = .ok (.iadd, 1) := by decide +kernel
theorem dX2_jumpUnmoved_50 : decode cX2_jumpUnmoved 50 = .ok (.isub, 1) := by decide +kernel
theorem dX2_jumpUnmoved_51 : decode cX2_jumpUnmoved 51 = .ok (.ireturn, 1) := by decide +kernel
theorem dX2_firstFit_0 : decode cX2_firstFit 0 = .ok (.aload_n 0, 1) := by decide +kernel
theorem dX2_firstFit_1 : decode cX2_firstFit 1 = .ok (.getfield 15, 3) := by decide +kernel
theorem dX2_firstFit_4 : decode cX2_firstFit 4 = .ok (.iload_n 1, 1) := by decide +kernel
theorem dX2_firstFit_5 : decode cX2_firstFit 5 = .ok (.iconst 3, 1) := by decide +kernel
theorem dX2_firstFit_6 : decode cX2_firstFit 6 = .ok (.iadd, 1) := by decide +kernel
theorem dX2_firstFit_7 : decode cX2_firstFit 7 = .ok (.iaload, 1) := by decide +kernel
theorem dX2_firstFit_8 : decode cX2_firstFit 8 = .ok (.istore_n 3, 1) := by decide +kernel
theorem dX2_firstFit_9 : decode cX2_firstFit 9 = .ok (.iload_n 1, 1) := by decide +kernel
theorem dX2_firstFit_10 : decode cX2_firstFit 10 = .ok (.iconst 3, 1) := by decide +kernel
theorem dX2_firstFit_11 : decode cX2_firstFit 11 = .ok (.if_icmp .ge 7, 3) := by decide +kernel
theorem dX2_firstFit_14 : decode cX2_firstFit 14 = .ok (.iload_n 3, 1) := by decide +kernel
theorem dX2_firstFit_15 : decode cX2_firstFit 15 = .ok (.goto 14, 3) := by decide +kernel
theorem dX2_firstFit_18 : decode cX2_firstFit 18 = .ok (.iload_n 3, 1) := by decide +kernel
theorem dX2_firstFit_19 : decode cX2_firstFit 19 = .ok (.aload_n 0, 1) := by decide +kernel
theorem dX2_firstFit_20 : decode cX2_firstFit 20 = .ok (.getfield 40, 3) := by decide +kernel
theorem dX2_firstFit_23 : decode cX2_firstFit 23 = .ok (.ineg, 1) := by decide +kernel
theorem dX2_firstFit_24 : decode cX2_firstFit 24 = .ok (.iload_n 2, 1) := by decide +kernel
theorem dX2_firstFit_25 : decode cX2_firstFit 25 = .ok (.isub, 1) := by decide +kernel
theorem dX2_firstFit_26 : decode cX2_firstFit 26 = .ok (.invokestatic 27, 3) := by decide +kernel
theorem dX2_firstFit_29 : decode cX2_firstFit 29 = .ok (.ireturn, 1) := by decide +kernel
theorem dX2_lastFit_0 : decode cX2_lastFit 0 = .ok (.aload_n 0, 1) := by decide +kernel
theorem dX2_lastFit_1 : decode cX2_lastFit 1 = .ok (.getfield 18, 3) := by decide +kernel
theorem dX2_lastFit_4 : decode cX2_lastFit 4 = .ok (.iload_n 1, 1) := by decide +kernel
theorem dX2_lastFit_5 : decode cX2_lastFit 5 = .ok (.iconst 3, 1) := by decide +kernel
theorem dX2_lastFit_6 : decode cX2_lastFit 6 = .ok (.iadd, 1) := by decide +kernel
theorem dX2_lastFit_7 : decode cX2_lastFit 7 = .ok (.iaload, 1) := by decide +kernel
theorem dX2_lastFit_8 : decode cX2_lastFit 8 = .ok (.istore_n 3, 1) := by decide +kernel
theorem dX2_lastFit_9 : decode cX2_lastFit 9 = .ok (.iload_n 1, 1) := by decide +kernel
theorem dX2_lastFit_10 : decode cX2_lastFit 10 = .ok (.iconst 3, 1) := by decide +kernel
theorem dX2_lastFit_11 : decode cX2_lastFit 11 = .ok (.if_icmp .ge 7, 3) := by decide +kernel
theorem dX2_lastFit_14 : decode cX2_lastFit 14 = .ok (.iload_n 3, 1) := by decide +kernel
theorem dX2_lastFit_15 : decode cX2_lastFit 15 = .ok (.goto 13, 3) := by decide +kernel
theorem dX2_lastFit_18 : decode cX2_lastFit 18 = .ok (.iload_n 3, 1) := by decide +kernel
theorem dX2_lastFit_19 : decode cX2_lastFit 19 = .ok (.aload_n 0, 1) := by decide +kernel
theorem dX2_lastFit_20 : decode cX2_lastFit 20 = .ok (.getfield 40, 3) := by decide +kernel
theorem dX2_lastFit_23 : decode cX2_lastFit 23 = .ok (.iload_n 2, 1) := by decide +kernel
theorem dX2_lastFit_24 : decode cX2_lastFit 24 = .ok (.isub, 1) := by decide +kernel
theorem dX2_lastFit_25 : decode cX2_lastFit 25 = .ok (.invokestatic 33, 3) := by decide +kernel
theorem dX2_lastFit_28 : decode cX2_lastFit 28 = .ok (.ireturn, 1) := by decide +kernel
theorem dX2_slot_0 : decode cX2_slot 0 = .ok (.iload_n 2, 1) := by decide +kernel
theorem dX2_slot_1 : decode cX2_slot 1 = .ok (.iconst 3, 1) := by decide +kernel
theorem dX2_slot_2 : decode cX2_slot 2 = .ok (.iadd, 1) := by decide +kernel
theorem dX2_slot_3 : decode cX2_slot 3 = .ok (.bipush 7, 2) := by decide +kernel
theorem dX2_slot_5 : decode cX2_slot 5 = .ok (.imul, 1) := by decide +kernel
theorem dX2_slot_6 : decode cX2_slot 6 = .ok (.iload_n 3, 1) := by decide +kernel
theorem dX2_slot_7 : decode cX2_slot 7 = .ok (.iadd, 1) := by decide +kernel
theorem dX2_slot_8 : decode cX2_slot 8 = .ok (.iconst 3, 1) := by decide +kernel
theorem dX2_slot_9 : decode cX2_slot 9 = .ok (.iadd, 1) := by decide +kernel
theorem dX2_slot_10 : decode cX2_slot 10 = .ok (.bipush 7, 2) := by decide +kernel
theorem dX2_slot_12 : decode cX2_slot 12 = .ok (.imul, 1) := by decide +kernel
theorem dX2_slot_13 : decode cX2_slot 13 = .ok (.iload 4, 2) := by decide +kernel
theorem dX2_slot_15 : decode cX2_slot 15 = .ok (.iadd, 1) := by decide +kernel
theorem dX2_slot_16 : decode cX2_slot 16 = .ok (.iconst 3, 1) := by decide +kernel
theorem dX2_slot_17 : decode cX2_slot 17 = .ok (.iadd, 1) := by decide +kernel
theorem dX2_slot_18 : decode cX2_slot 18 = .ok (.istore 5, 2) := by decide +kernel
theorem dX2_slot_20 : decode cX2_slot 20 = .ok (.aload_n 0, 1) := by decide +kernel
theorem dX2_slot_21 : decode cX2_slot 21 = .ok (.getfield 36, 3) := by decide +kernel
theorem dX2_slot_24 : decode cX2_slot 24 = .ok (.iload_n 1, 1) := by decide +kernel
theorem dX2_slot_25 : decode cX2_slot 25 = .ok (.isub, 1) := by decide +kernel
theorem dX2_slot_26 : decode cX2_slot 26 = .ok (.sipush 343, 3) := by decide +kernel
theorem dX2_slot_29 : decode cX2_slot 29 = .ok (.imul, 1) := by decide +kernel
theorem dX2_slot_30 : decode cX2_slot 30 = .ok (.iload 5, 2) := by decide +kernel
theorem dX2_slot_32 : decode cX2_slot 32 = .ok (.iadd, 1) := by decide +kernel
theorem dX2_slot_33 : decode cX2_slot 33 = .ok (.ireturn, 1) := by decide +kernel
