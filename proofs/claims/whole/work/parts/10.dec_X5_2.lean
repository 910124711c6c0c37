theorem dX5_told_15 : decode cX5_told 15 = .ok (.lstore 7, 2) := by decide +kernel
theorem dX5_told_17 : decode cX5_told 17 = .ok (.lload 7, 2) := by decide +kernel
theorem dX5_told_19 : decode cX5_told 19 = .ok (.lconst 0, 1) := by decide +kernel
theorem dX5_told_20 : decode cX5_told 20 = .ok (.lcmp, 1) := by decide +kernel
theorem dX5_told_21 : decode cX5_told 21 = .ok (.ifCond .eq 21, 3) := by decide +kernel
theorem dX5_told_24 : decode cX5_told 24 = .ok (.lload 5, 2) := by decide +kernel
theorem dX5_told_26 : decode cX5_told 26 = .ok (.lload 7, 2) := by decide +kernel
theorem dX5_told_28 : decode cX5_told 28 = .ok (.lrem, 1) := by decide +kernel
theorem dX5_told_29 : decode cX5_told 29 = .ok (.lstore 9, 2) := by decide +kernel
theorem dX5_told_31 : decode cX5_told 31 = .ok (.lload 7, 2) := by decide +kernel
theorem dX5_told_33 : decode cX5_told 33 = .ok (.lstore 5, 2) := by decide +kernel
theorem dX5_told_35 : decode cX5_told 35 = .ok (.lload 9, 2) := by decide +kernel
theorem dX5_told_37 : decode cX5_told 37 = .ok (.lstore 7, 2) := by decide +kernel
theorem dX5_told_39 : decode cX5_told 39 = .ok (.goto (-22), 3) := by decide +kernel
theorem dX5_told_42 : decode cX5_told 42 = .ok (.iload 4, 2) := by decide +kernel
theorem dX5_told_44 : decode cX5_told 44 = .ok (.ifCond .ne 10, 3) := by decide +kernel
theorem dX5_told_47 : decode cX5_told 47 = .ok (.lload_n 0, 1) := by decide +kernel
theorem dX5_told_48 : decode cX5_told 48 = .ok (.lload 5, 2) := by decide +kernel
theorem dX5_told_50 : decode cX5_told 50 = .ok (.ldiv, 1) := by decide +kernel
theorem dX5_told_51 : decode cX5_told 51 = .ok (.goto 7, 3) := by decide +kernel
theorem dX5_told_54 : decode cX5_told 54 = .ok (.lload_n 2, 1) := by decide +kernel
theorem dX5_told_55 : decode cX5_told 55 = .ok (.lload 5, 2) := by decide +kernel
theorem dX5_told_57 : decode cX5_told 57 = .ok (.ldiv, 1) := by decide +kernel
theorem dX5_told_58 : decode cX5_told 58 = .ok (.lreturn, 1) := by decide +kernel
theorem dX5_isWhich_0 : decode cX5_isWhich 0 = .ok (.iload_n 0, 1) := by decide +kernel
theorem dX5_isWhich_1 : decode cX5_isWhich 1 = .ok (.ifCond .eq 8, 3) := by decide +kernel
theorem dX5_isWhich_4 : decode cX5_isWhich 4 = .ok (.iload_n 0, 1) := by decide +kernel
theorem dX5_isWhich_5 : decode cX5_isWhich 5 = .ok (.iconst 1, 1) := by decide +kernel
theorem dX5_isWhich_6 : decode cX5_isWhich 6 = .ok (.if_icmp .ne 7, 3) := by decide +kernel
theorem dX5_isWhich_9 : decode cX5_isWhich 9 = .ok (.iconst 1, 1) := by decide +kernel
theorem dX5_isWhich_10 : decode cX5_isWhich 10 = .ok (.goto 4, 3) := by decide +kernel
theorem dX5_isWhich_13 : decode cX5_isWhich 13 = .ok (.iconst 0, 1) := by decide +kernel
theorem dX5_isWhich_14 : decode cX5_isWhich 14 = .ok (.ireturn, 1) := by decide +kernel
theorem dX5_sumOf_0 : decode cX5_sumOf 0 = .ok (.aload_n 0, 1) := by decide +kernel
theorem dX5_sumOf_1 : decode cX5_sumOf 1 = .ok (.iload_n 1, 1) := by decide +kernel
theorem dX5_sumOf_2 : decode cX5_sumOf 2 = .ok (.iload_n 2, 1) := by decide +kernel
theorem dX5_sumOf_3 : decode cX5_sumOf 3 = .ok (.invokevirtual 109, 3) := by decide +kernel
theorem dX5_sumOf_6 : decode cX5_sumOf 6 = .ok (.iconst 0, 1) := by decide +kernel
theorem dX5_sumOf_7 : decode cX5_sumOf 7 = .ok (.istore_n 3, 1) := by decide +kernel
theorem dX5_sumOf_8 : decode cX5_sumOf 8 = .ok (.iload_n 3, 1) := by decide +kernel
theorem dX5_sumOf_9 : decode cX5_sumOf 9 = .ok (.aload_n 0, 1) := by decide +kernel
theorem dX5_sumOf_10 : decode cX5_sumOf 10 = .ok (.getfield 97, 3) := by decide +kernel
theorem dX5_sumOf_13 : decode cX5_sumOf 13 = .ok (.if_icmp .ge 22, 3) := by decide +kernel
theorem dX5_sumOf_16 : decode cX5_sumOf 16 = .ok (.aload_n 0, 1) := by decide +kernel
theorem dX5_sumOf_17 : decode cX5_sumOf 17 = .ok (.getfield 48, 3) := by decide +kernel
theorem dX5_sumOf_20 : decode cX5_sumOf 20 = .ok (.iload_n 3, 1) := by decide +kernel
theorem dX5_sumOf_21 : decode cX5_sumOf 21 = .ok (.aload_n 0, 1) := by decide +kernel
theorem dX5_sumOf_22 : decode cX5_sumOf 22 = .ok (.getfield 36, 3) := by decide +kernel
theorem dX5_sumOf_25 : decode cX5_sumOf 25 = .ok (.iload_n 3, 1) := by decide +kernel
theorem dX5_sumOf_26 : decode cX5_sumOf 26 = .ok (.iaload, 1) := by decide +kernel
theorem dX5_sumOf_27 : decode cX5_sumOf 27 = .ok (.i2l, 1) := by decide +kernel
theorem dX5_sumOf_28 : decode cX5_sumOf 28 = .ok (.lastore, 1) := by decide +kernel
theorem dX5_sumOf_29 : decode cX5_sumOf 29 = .ok (.iinc 3 1, 3) := by decide +kernel
theorem dX5_sumOf_32 : decode cX5_sumOf 32 = .ok (.goto (-24), 3) := by decide +kernel
theorem dX5_sumOf_35 : decode cX5_sumOf 35 = .ok (.aload_n 0, 1) := by decide +kernel
theorem dX5_sumOf_36 : decode cX5_sumOf 36 = .ok (.aload_n 0, 1) := by decide +kernel
theorem dX5_sumOf_37 : decode cX5_sumOf 37 = .ok (.getfield 97, 3) := by decide +kernel
theorem dX5_sumOf_40 : decode cX5_sumOf 40 = .ok (.invokevirtual 170, 3) := by decide +kernel
theorem dX5_sumOf_43 : decode cX5_sumOf 43 = .ok (.lreturn, 1) := by decide +kernel
theorem dX5_area_0 : decode cX5_area 0 = .ok (.iload_n 1, 1) := by decide +kernel
theorem dX5_area_1 : decode cX5_area 1 = .ok (.invokestatic 103, 3) := by decide +kernel
theorem dX5_area_4 : decode cX5_area 4 = .ok (.ifCond .eq 19, 3) := by decide +kernel
theorem dX5_area_7 : decode cX5_area 7 = .ok (.aload_n 0, 1) := by decide +kernel
theorem dX5_area_8 : decode cX5_area 8 = .ok (.iload_n 1, 1) := by decide +kernel
theorem dX5_area_9 : decode cX5_area 9 = .ok (.iload_n 2, 1) := by decide +kernel
theorem dX5_area_10 : decode cX5_area 10 = .ok (.invokevirtual 106, 3) := by decide +kernel
theorem dX5_area_13 : decode cX5_area 13 = .ok (.ifCond .eq 10, 3) := by decide +kernel
theorem dX5_area_16 : decode cX5_area 16 = .ok (.iload_n 3, 1) := by decide +kernel
theorem dX5_area_17 : decode cX5_area 17 = .ok (.invokestatic 174, 3) := by decide +kernel
theorem dX5_area_20 : decode cX5_area 20 = .ok (.ifCond .ne 7, 3) := by decide +kernel
theorem dX5_area_23 : decode cX5_area 23 = .ok (.ldc2_w 177, 3) := by decide +kernel
theorem dX5_area_26 : decode cX5_area 26 = .ok (.lreturn, 1) := by decide +kernel
theorem dX5_area_27 : decode cX5_area 27 = .ok (.aload_n 0, 1) := by decide +kernel
theorem dX5_area_28 : decode cX5_area 28 = .ok (.iload_n 1, 1) := by decide +kernel
theorem dX5_area_29 : decode cX5_area 29 = .ok (.iload_n 2, 1) := by decide +kernel
theorem dX5_area_30 : decode cX5_area 30 = .ok (.invokevirtual 179, 3) := by decide +kernel
theorem dX5_area_33 : decode cX5_area 33 = .ok (.iload_n 1, 1) := by decide +kernel
theorem dX5_area_34 : decode cX5_area 34 = .ok (.ifCond .ne 10, 3) := by decide +kernel
theorem dX5_area_37 : decode cX5_area 37 = .ok (.aload_n 0, 1) := by decide +kernel
theorem dX5_area_38 : decode cX5_area 38 = .ok (.getfield 16, 3) := by decide +kernel
theorem dX5_area_41 : decode cX5_area 41 = .ok (.goto 7, 3) := by decide +kernel
theorem dX5_area_44 : decode cX5_area 44 = .ok (.aload_n 0, 1) := by decide +kernel
theorem dX5_area_45 : decode cX5_area 45 = .ok (.getfield 19, 3) := by decide +kernel
theorem dX5_area_48 : decode cX5_area 48 = .ok (.i2l, 1) := by decide +kernel
theorem dX5_area_49 : decode cX5_area 49 = .ok (.lmul, 1) := by decide +kernel
theorem dX5_area_50 : decode cX5_area 50 = .ok (.ldc2_w 183, 3) := by decide +kernel
theorem dX5_area_53 : decode cX5_area 53 = .ok (.iload_n 3, 1) := by decide +kernel
theorem dX5_area_54 : decode cX5_area 54 = .ok (.invokestatic 185, 3) := by decide +kernel
theorem dX5_area_57 : decode cX5_area 57 = .ok (.lreturn, 1) := by decide +kernel
theorem dX5_centre_0 : decode cX5_centre 0 = .ok (.iload_n 1, 1) := by decide +kernel
theorem dX5_centre_1 : decode cX5_centre 1 = .ok (.invokestatic 103, 3) := by decide +kernel
theorem dX5_centre_4 : decode cX5_centre 4 = .ok (.ifCond .eq 19, 3) := by decide +kernel
theorem dX5_centre_7 : decode cX5_centre 7 = .ok (.aload_n 0, 1) := by decide +kernel
theorem dX5_centre_8 : decode cX5_centre 8 = .ok (.iload_n 1, 1) := by decide +kernel
theorem dX5_centre_9 : decode cX5_centre 9 = .ok (.iload_n 2, 1) := by decide +kernel
theorem dX5_centre_10 : decode cX5_centre 10 = .ok (.invokevirtual 106, 3) := by decide +kernel
theorem dX5_centre_13 : decode cX5_centre 13 = .ok (.ifCond .eq 10, 3) := by decide +kernel
theorem dX5_centre_16 : decode cX5_centre 16 = .ok (.iload_n 3, 1) := by decide +kernel
theorem dX5_centre_17 : decode cX5_centre 17 = .ok (.invokestatic 174, 3) := by decide +kernel
theorem dX5_centre_20 : decode cX5_centre 20 = .ok (.ifCond .ne 7, 3) := by decide +kernel
theorem dX5_centre_23 : decode cX5_centre 23 = .ok (.ldc2_w 177, 3) := by decide +kernel
theorem dX5_centre_26 : decode cX5_centre 26 = .ok (.lreturn, 1) := by decide +kernel
theorem dX5_centre_27 : decode cX5_centre 27 = .ok (.aload_n 0, 1) := by decide +kernel
theorem dX5_centre_28 : decode cX5_centre 28 = .ok (.iload_n 1, 1) := by decide +kernel
theorem dX5_centre_29 : decode cX5_centre 29 = .ok (.iload_n 2, 1) := by decide +kernel
theorem dX5_centre_30 : decode cX5_centre 30 = .ok (.invokevirtual 179, 3) := by decide +kernel
theorem dX5_centre_33 : decode cX5_centre 33 = .ok (.lstore 4, 2) := by decide +kernel
theorem dX5_centre_35 : decode cX5_centre 35 = .ok (.lload 4, 2) := by decide +kernel
theorem dX5_centre_37 : decode cX5_centre 37 = .ok (.lconst 0, 1) := by decide +kernel
theorem dX5_centre_38 : decode cX5_centre 38 = .ok (.lcmp, 1) := by decide +kernel
theorem dX5_centre_39 : decode cX5_centre 39 = .ok (.ifCond .ne 7, 3) := by decide +kernel
theorem dX5_centre_42 : decode cX5_centre 42 = .ok (.ldc2_w 177, 3) := by decide +kernel
theorem dX5_centre_45 : decode cX5_centre 45 = .ok (.lreturn, 1) := by decide +kernel
theorem dX5_centre_46 : decode cX5_centre 46 = .ok (.iconst 0, 1) := by decide +kernel
theorem dX5_centre_47 : decode cX5_centre 47 = .ok (.istore 6, 2) := by decide +kernel
theorem dX5_centre_49 : decode cX5_centre 49 = .ok (.iload 6, 2) := by decide +kernel
theorem dX5_centre_51 : decode cX5_centre 51 = .ok (.aload_n 0, 1) := by decide +kernel
theorem dX5_centre_52 : decode cX5_centre 52 = .ok (.getfield 97, 3) := by decide +kernel
theorem dX5_centre_55 : decode cX5_centre 55 = .ok (.if_icmp .ge 28, 3) := by decide +kernel
theorem dX5_centre_58 : decode cX5_centre 58 = .ok (.aload_n 0, 1) := by decide +kernel
theorem dX5_centre_59 : decode cX5_centre 59 = .ok (.getfield 48, 3) := by decide +kernel
theorem dX5_centre_62 : decode cX5_centre 62 = .ok (.iload 6, 2) := by decide +kernel
theorem dX5_centre_64 : decode cX5_centre 64 = .ok (.aload_n 0, 1) := by decide +kernel
theorem dX5_centre_65 : decode cX5_centre 65 = .ok (.getfield 36, 3) := by decide +kernel
theorem dX5_centre_68 : decode cX5_centre 68 = .ok (.iload 6, 2) := by decide +kernel
theorem dX5_centre_70 : decode cX5_centre 70 = .ok (.iaload, 1) := by decide +kernel
theorem dX5_centre_71 : decode cX5_centre 71 = .ok (.i2l, 1) := by decide +kernel
theorem dX5_centre_72 : decode cX5_centre 72 = .ok (.iload 6, 2) := by decide +kernel
theorem dX5_centre_74 : decode cX5_centre 74 = .ok (.i2l, 1) := by decide +kernel
theorem dX5_centre_75 : decode cX5_centre 75 = .ok (.lmul, 1) := by decide +kernel
theorem dX5_centre_76 : decode cX5_centre 76 = .ok (.lastore, 1) := by decide +kernel
theorem dX5_centre_77 : decode cX5_centre 77 = .ok (.iinc 6 1, 3) := by decide +kernel
theorem dX5_centre_80 : decode cX5_centre 80 = .ok (.goto (-31), 3) := by decide +kernel
theorem dX5_centre_83 : decode cX5_centre 83 = .ok (.aload_n 0, 1) := by decide +kernel
theorem dX5_centre_84 : decode cX5_centre 84 = .ok (.aload_n 0, 1) := by decide +kernel
theorem dX5_centre_85 : decode cX5_centre 85 = .ok (.getfield 97, 3) := by decide +kernel
theorem dX5_centre_88 : decode cX5_centre 88 = .ok (.invokevirtual 170, 3) := by decide +kernel
theorem dX5_centre_91 : decode cX5_centre 91 = .ok (.lload 4, 2) := by decide +kernel
theorem dX5_centre_93 : decode cX5_centre 93 = .ok (.iload_n 3, 1) := by decide +kernel
theorem dX5_centre_94 : decode cX5_centre 94 = .ok (.invokestatic 185, 3) := by decide +kernel
theorem dX5_centre_97 : decode cX5_centre 97 = .ok (.lreturn, 1) := by decide +kernel
theorem dX5_volume_0 : decode cX5_volume 0 = .ok (.iload_n 1, 1) := by decide +kernel
theorem dX5_volume_1 : decode cX5_volume 1 = .ok (.invokestatic 103, 3) := by decide +kernel
theorem dX5_volume_4 : decode cX5_volume 4 = .ok (.ifCond .eq 10, 3) := by decide +kernel
theorem dX5_volume_7 : decode cX5_volume 7 = .ok (.iload_n 2, 1) := by decide +kernel
theorem dX5_volume_8 : decode cX5_volume 8 = .ok (.invokestatic 174, 3) := by decide +kernel
theorem dX5_volume_11 : decode cX5_volume 11 = .ok (.ifCond .ne 7, 3) := by decide +kernel
theorem dX5_volume_14 : decode cX5_volume 14 = .ok (.ldc2_w 177, 3) := by decide +kernel
theorem dX5_volume_17 : decode cX5_volume 17 = .ok (.lreturn, 1) := by decide +kernel
theorem dX5_volume_18 : decode cX5_volume 18 = .ok (.aload_n 0, 1) := by decide +kernel
theorem dX5_volume_19 : decode cX5_volume 19 = .ok (.iload_n 1, 1) := by decide +kernel
theorem dX5_volume_20 : decode cX5_volume 20 = .ok (.invokevirtual 93, 3) := by decide +kernel
theorem dX5_volume_23 : decode cX5_volume 23 = .ok (.istore_n 3, 1) := by decide +kernel
theorem dX5_volume_24 : decode cX5_volume 24 = .ok (.iconst 0, 1) := by decide +kernel
theorem dX5_volume_25 : decode cX5_volume 25 = .ok (.istore 4, 2) := by decide +kernel
theorem dX5_volume_27 : decode cX5_volume 27 = .ok (.iload 4, 2) := by decide +kernel
theorem dX5_volume_29 : decode cX5_volume 29 = .ok (.iload_n 3, 1) := by decide +kernel
theorem dX5_volume_30 : decode cX5_volume 30 = .ok (.if_icmp .ge 23, 3) := by decide +kernel
theorem dX5_volume_33 : decode cX5_volume 33 = .ok (.aload_n 0, 1) := by decide +kernel
theorem dX5_volume_34 : decode cX5_volume 34 = .ok (.getfield 52, 3) := by decide +kernel
theorem dX5_volume_37 : decode cX5_volume 37 = .ok (.iload 4, 2) := by decide +kernel
theorem dX5_volume_39 : decode cX5_volume 39 = .ok (.aload_n 0, 1) := by decide +kernel
theorem dX5_volume_40 : decode cX5_volume 40 = .ok (.iload_n 1, 1) := by decide +kernel
theorem dX5_volume_41 : decode cX5_volume 41 = .ok (.iload 4, 2) := by decide +kernel
theorem dX5_volume_43 : decode cX5_volume 43 = .ok (.invokevirtual 179, 3) := by decide +kernel
theorem dX5_volume_46 : decode cX5_volume 46 = .ok (.lastore, 1) := by decide +kernel
theorem dX5_volume_47 : decode cX5_volume 47 = .ok (.iinc 4 1, 3) := by decide +kernel
theorem dX5_volume_50 : decode cX5_volume 50 = .ok (.goto (-23), 3) := by decide +kernel
theorem dX5_volume_53 : decode cX5_volume 53 = .ok (.iconst 0, 1) := by decide +kernel
theorem dX5_volume_54 : decode cX5_volume 54 = .ok (.istore 4, 2) := by decide +kernel
theorem dX5_volume_56 : decode cX5_volume 56 = .ok (.iload 4, 2) := by decide +kernel
theorem dX5_volume_58 : decode cX5_volume 58 = .ok (.iload_n 3, 1) := by decide +kernel
theorem dX5_volume_59 : decode cX5_volume 59 = .ok (.if_icmp .ge 23, 3) := by decide +kernel
theorem dX5_volume_62 : decode cX5_volume 62 = .ok (.aload_n 0, 1) := by decide +kernel
theorem dX5_volume_63 : decode cX5_volume 63 = .ok (.getfield 48, 3) := by decide +kernel
theorem dX5_volume_66 : decode cX5_volume 66 = .ok (.iload 4, 2) := by decide +kernel
theorem dX5_volume_68 : decode cX5_volume 68 = .ok (.aload_n 0, 1) := by decide +kernel
theorem dX5_volume_69 : decode cX5_volume 69 = .ok (.getfield 52, 3) := by decide +kernel
theorem dX5_volume_72 : decode cX5_volume 72 = .ok (.iload 4, 2) := by decide +kernel
theorem dX5_volume_74 : decode cX5_volume 74 = .ok (.laload, 1) := by decide +kernel
theorem dX5_volume_75 : decode cX5_volume 75 = .ok (.lastore, 1) := by decide +kernel
theorem dX5_volume_76 : decode cX5_volume 76 = .ok (.iinc 4 1, 3) := by decide +kernel
theorem dX5_volume_79 : decode cX5_volume 79 = .ok (.goto (-23), 3) := by decide +kernel
theorem dX5_volume_82 : decode cX5_volume 82 = .ok (.aload_n 0, 1) := by decide +kernel
theorem dX5_volume_83 : decode cX5_volume 83 = .ok (.iload_n 3, 1) := by decide +kernel
theorem dX5_volume_84 : decode cX5_volume 84 = .ok (.invokevirtual 170, 3) := by decide +kernel
theorem dX5_volume_87 : decode cX5_volume 87 = .ok (.aload_n 0, 1) := by decide +kernel
theorem dX5_volume_88 : decode cX5_volume 88 = .ok (.getfield 16, 3) := by decide +kernel
theorem dX5_volume_91 : decode cX5_volume 91 = .ok (.i2l, 1) := by decide +kernel
theorem dX5_volume_92 : decode cX5_volume 92 = .ok (.lmul, 1) := by decide +kernel
theorem dX5_volume_93 : decode cX5_volume 93 = .ok (.aload_n 0, 1) := by decide +kernel
theorem dX5_volume_94 : decode cX5_volume 94 = .ok (.getfield 19, 3) := by decide +kernel
theorem dX5_volume_97 : decode cX5_volume 97 = .ok (.i2l, 1) := by decide +kernel
theorem dX5_volume_98 : decode cX5_volume 98 = .ok (.lmul, 1) := by decide +kernel
theorem dX5_volume_99 : decode cX5_volume 99 = .ok (.ldc2_w 189, 3) := by decide +kernel
theorem dX5_volume_102 : decode cX5_volume 102 = .ok (.iload_n 2, 1) := by decide +kernel
theorem dX5_volume_103 : decode cX5_volume 103 = .ok (.invokestatic 185, 3) := by decide +kernel
theorem dX5_volume_106 : decode cX5_volume 106 = .ok (.lreturn, 1) := by decide +kernel
theorem dX5_findHeight_0 : decode cX5_findHeight 0 = .ok (.iconst 0, 1) := by decide +kernel
theorem dX5_findHeight_1 : decode cX5_findHeight 1 = .ok (.istore_n 3, 1) := by decide +kernel
theorem dX5_findHeight_2 : decode cX5_findHeight 2 = .ok (.iload_n 3, 1) := by decide +kernel
theorem dX5_findHeight_3 : decode cX5_findHeight 3 = .ok (.aload_n 0, 1) := by decide +kernel
theorem dX5_findHeight_4 : decode cX5_findHeight 4 = .ok (.getfield 64, 3) := by decide +kernel
theorem dX5_findHeight_7 : decode cX5_findHeight 7 = .ok (.if_icmp .ge 99, 3) := by decide +kernel
theorem dX5_findHeight_10 : decode cX5_findHeight 10 = .ok (.aload_n 0, 1) := by decide +kernel
theorem dX5_findHeight_11 : decode cX5_findHeight 11 = .ok (.getfield 22, 3) := by decide +kernel
theorem dX5_findHeight_14 : decode cX5_findHeight 14 = .ok (.bipush 7, 2) := by decide +kernel
theorem dX5_findHeight_16 : decode cX5_findHeight 16 = .ok (.iload_n 1, 1) := by decide +kernel
theorem dX5_findHeight_17 : decode cX5_findHeight 17 = .ok (.imul, 1) := by decide +kernel
theorem dX5_findHeight_18 : decode cX5_findHeight 18 = .ok (.iload_n 3, 1) := by decide +kernel
theorem dX5_findHeight_19 : decode cX5_findHeight 19 = .ok (.iadd, 1) := by decide +kernel
theorem dX5_findHeight_20 : decode cX5_findHeight 20 = .ok (.iaload, 1) := by decide +kernel
theorem dX5_findHeight_21 : decode cX5_findHeight 21 = .ok (.istore 4, 2) := by decide +kernel
theorem dX5_findHeight_23 : decode cX5_findHeight 23 = .ok (.iload 4, 2) := by decide +kernel
theorem dX5_findHeight_25 : decode cX5_findHeight 25 = .ok (.iload_n 2, 1) := by decide +kernel
theorem dX5_findHeight_26 : decode cX5_findHeight 26 = .ok (.if_icmp .lt 74, 3) := by decide +kernel
theorem dX5_findHeight_29 : decode cX5_findHeight 29 = .ok (.iload_n 3, 1) := by decide +kernel
theorem dX5_findHeight_30 : decode cX5_findHeight 30 = .ok (.ifCond .ne 7, 3) := by decide +kernel
theorem dX5_findHeight_33 : decode cX5_findHeight 33 = .ok (.iconst 0, 1) := by decide +kernel
theorem dX5_findHeight_34 : decode cX5_findHeight 34 = .ok (.goto 16, 3) := by decide +kernel
theorem dX5_findHeight_37 : decode cX5_findHeight 37 = .ok (.aload_n 0, 1) := by decide +kernel
theorem dX5_findHeight_38 : decode cX5_findHeight 38 = .ok (.getfield 22, 3) := by decide +kernel
theorem dX5_findHeight_41 : decode cX5_findHeight 41 = .ok (.bipush 7, 2) := by decide +kernel
theorem dX5_findHeight_43 : decode cX5_findHeight 43 = .ok (.iload_n 1, 1) := by decide +kernel
theorem dX5_findHeight_44 : decode cX5_findHeight 44 = .ok (.imul, 1) := by decide +kernel
theorem dX5_findHeight_45 : decode cX5_findHeight 45 = .ok (.iload_n 3, 1) := by decide +kernel
theorem dX5_findHeight_46 : decode cX5_findHeight 46 = .ok (.iadd, 1) := by decide +kernel
theorem dX5_findHeight_47 : decode cX5_findHeight 47 = .ok (.iconst 1, 1) := by decide +kernel
theorem dX5_findHeight_48 : decode cX5_findHeight 48 = .ok (.isub, 1) := by decide +kernel
theorem dX5_findHeight_49 : decode cX5_findHeight 49 = .ok (.iaload, 1) := by decide +kernel
theorem dX5_findHeight_50 : decode cX5_findHeight 50 = .ok (.istore 5, 2) := by decide +kernel
theorem dX5_findHeight_52 : decode cX5_findHeight 52 = .ok (.aload_n 0, 1) := by decide +kernel
theorem dX5_findHeight_53 : decode cX5_findHeight 53 = .ok (.iload_n 3, 1) := by decide +kernel
theorem dX5_findHeight_54 : decode cX5_findHeight 54 = .ok (.ifCond .ne 7, 3) := by decide +kernel
theorem dX5_findHeight_57 : decode cX5_findHeight 57 = .ok (.lconst 1, 1) := by decide +kernel
theorem dX5_findHeight_58 : decode cX5_findHeight 58 = .ok (.goto 9, 3) := by decide +kernel
theorem dX5_findHeight_61 : decode cX5_findHeight 61 = .ok (.iload 4, 2) := by decide +kernel
theorem dX5_findHeight_63 : decode cX5_findHeight 63 = .ok (.iload 5, 2) := by decide +kernel
theorem dX5_findHeight_65 : decode cX5_findHeight 65 = .ok (.isub, 1) := by decide +kernel
theorem dX5_findHeight_66 : decode cX5_findHeight 66 = .ok (.i2l, 1) := by decide +kernel
theorem dX5_findHeight_67 : decode cX5_findHeight 67 = .ok (.putfield 191, 3) := by decide +kernel
theorem dX5_findHeight_70 : decode cX5_findHeight 70 = .ok (.aload_n 0, 1) := by decide +kernel
theorem dX5_findHeight_71 : decode cX5_findHeight 71 = .ok (.iload_n 3, 1) := by decide +kernel
theorem dX5_findHeight_72 : decode cX5_findHeight 72 = .ok (.ifCond .ne 7, 3) := by decide +kernel
theorem dX5_findHeight_75 : decode cX5_findHeight 75 = .ok (.lconst 0, 1) := by decide +kernel
theorem dX5_findHeight_76 : decode cX5_findHeight 76 = .ok (.goto 19, 3) := by decide +kernel
theorem dX5_findHeight_79 : decode cX5_findHeight 79 = .ok (.iload_n 3, 1) := by decide +kernel
theorem dX5_findHeight_80 : decode cX5_findHeight 80 = .ok (.i2l, 1) := by decide +kernel
theorem dX5_findHeight_81 : decode cX5_findHeight 81 = .ok (.lconst 1, 1) := by decide +kernel
theorem dX5_findHeight_82 : decode cX5_findHeight 82 = .ok (.lsub, 1) := by decide +kernel
theorem dX5_findHeight_83 : decode cX5_findHeight 83 = .ok (.aload_n 0, 1) := by decide +kernel
theorem dX5_findHeight_84 : decode cX5_findHeight 84 = .ok (.getfield 191, 3) := by decide +kernel
theorem dX5_findHeight_87 : decode cX5_findHeight 87 = .ok (.lmul, 1) := by decide +kernel
theorem dX5_findHeight_88 : decode cX5_findHeight 88 = .ok (.iload_n 2, 1) := by decide +kernel
theorem dX5_findHeight_89 : decode cX5_findHeight 89 = .ok (.i2l, 1) := by decide +kernel
theorem dX5_findHeight_90 : decode cX5_findHeight 90 = .ok (.ladd, 1) := by decide +kernel
theorem dX5_findHeight_91 : decode cX5_findHeight 91 = .ok (.iload 5, 2) := by decide +kernel
theorem dX5_findHeight_93 : decode cX5_findHeight 93 = .ok (.i2l, 1) := by decide +kernel
theorem dX5_findHeight_94 : decode cX5_findHeight 94 = .ok (.lsub, 1) := by decide +kernel
theorem dX5_findHeight_95 : decode cX5_findHeight 95 = .ok (.putfield 195, 3) := by decide +kernel
theorem dX5_findHeight_98 : decode cX5_findHeight 98 = .ok (.iconst 1, 1) := by decide +kernel
theorem dX5_findHeight_99 : decode cX5_findHeight 99 = .ok (.ireturn, 1) := by decide +kernel
theorem dX5_findHeight_100 : decode cX5_findHeight 100 = .ok (.iinc 3 1, 3) := by decide +kernel
theorem dX5_findHeight_103 : decode cX5_findHeight 103 = .ok (.goto (-101), 3) := by decide +kernel
theorem dX5_findHeight_106 : decode cX5_findHeight 106 = .ok (.iconst 0, 1) := by decide +kernel
theorem dX5_findHeight_107 : decode cX5_findHeight 107 = .ok (.ireturn, 1) := by decide +kernel
theorem dX5_isBreadth_0 : decode cX5_isBreadth 0 = .ok (.iload_n 0, 1) := by decide +kernel
theorem dX5_isBreadth_1 : decode cX5_isBreadth 1 = .ok (.i2l, 1) := by decide +kernel
theorem dX5_isBreadth_2 : decode cX5_isBreadth 2 = .ok (.lconst 1, 1) := by decide +kernel
theorem dX5_isBreadth_3 : decode cX5_isBreadth 3 = .ok (.ldc2_w 71, 3) := by decide +kernel
theorem dX5_isBreadth_6 : decode cX5_isBreadth 6 = .ok (.invokestatic 67, 3) := by decide +kernel
theorem dX5_isBreadth_9 : decode cX5_isBreadth 9 = .ok (.ireturn, 1) := by decide +kernel
theorem dX5_height_0 : decode cX5_height 0 = .ok (.iload_n 1, 1) := by decide +kernel
theorem dX5_height_1 : decode cX5_height 1 = .ok (.i2l, 1) := by decide +kernel
theorem dX5_height_2 : decode cX5_height 2 = .ok (.lconst 0, 1) := by decide +kernel
theorem dX5_height_3 : decode cX5_height 3 = .ok (.aload_n 0, 1) := by decide +kernel
theorem dX5_height_4 : decode cX5_height 4 = .ok (.getfield 61, 3) := by decide +kernel
theorem dX5_height_7 : decode cX5_height 7 = .ok (.iconst 1, 1) := by decide +kernel
theorem dX5_height_8 : decode cX5_height 8 = .ok (.isub, 1) := by decide +kernel
theorem dX5_height_9 : decode cX5_height 9 = .ok (.i2l, 1) := by decide +kernel
theorem dX5_height_10 : decode cX5_height 10 = .ok (.invokestatic 67, 3) := by decide +kernel
theorem dX5_height_13 : decode cX5_height 13 = .ok (.ifCond .eq 26, 3) := by decide +kernel
theorem dX5_height_16 : decode cX5_height 16 = .ok (.iload_n 2, 1) := by decide +kernel
theorem dX5_height_17 : decode cX5_height 17 = .ok (.invokestatic 198, 3) := by decide +kernel
theorem dX5_height_20 : decode cX5_height 20 = .ok (.ifCond .eq 19, 3) := by decide +kernel
theorem dX5_height_23 : decode cX5_height 23 = .ok (.iload_n 3, 1) := by decide +kernel
theorem dX5_height_24 : decode cX5_height 24 = .ok (.invokestatic 174, 3) := by decide +kernel
theorem dX5_height_27 : decode cX5_height 27 = .ok (.ifCond .eq 12, 3) := by decide +kernel
theorem dX5_height_30 : decode cX5_height 30 = .ok (.aload_n 0, 1) := by decide +kernel
theorem dX5_height_31 : decode cX5_height 31 = .ok (.iload_n 1, 1) := by decide +kernel
theorem dX5_height_32 : decode cX5_height 32 = .ok (.iload_n 2, 1) := by decide +kernel
theorem dX5_height_33 : decode cX5_height 33 = .ok (.invokevirtual 201, 3) := by decide +kernel
theorem dX5_height_36 : decode cX5_height 36 = .ok (.ifCond .ne 7, 3) := by decide +kernel
theorem dX5_height_39 : decode cX5_height 39 = .ok (.ldc2_w 177, 3) := by decide +kernel
theorem dX5_height_42 : decode cX5_height 42 = .ok (.lreturn, 1) := by decide +kernel
theorem dX5_height_43 : decode cX5_height 43 = .ok (.aload_n 0, 1) := by decide +kernel
theorem dX5_height_44 : decode cX5_height 44 = .ok (.getfield 195, 3) := by decide +kernel
theorem dX5_height_47 : decode cX5_height 47 = .ok (.aload_n 0, 1) := by decide +kernel
theorem dX5_height_48 : decode cX5_height 48 = .ok (.getfield 191, 3) := by decide +kernel
theorem dX5_height_51 : decode cX5_height 51 = .ok (.iload_n 3, 1) := by decide +kernel
theorem dX5_height_52 : decode cX5_height 52 = .ok (.invokestatic 185, 3) := by decide +kernel
theorem dX5_height_55 : decode cX5_height 55 = .ok (.lreturn, 1) := by decide +kernel
theorem dX5_isBreak_0 : decode cX5_isBreak 0 = .ok (.lconst 1, 1) := by decide +kernel
theorem dX5_isBreak_1 : decode cX5_isBreak 1 = .ok (.lstore_n 2, 1) := by decide +kernel
theorem dX5_isBreak_2 : decode cX5_isBreak 2 = .ok (.iconst 0, 1) := by decide +kernel
theorem dX5_isBreak_3 : decode cX5_isBreak 3 = .ok (.istore 4, 2) := by decide +kernel
theorem dX5_isBreak_5 : decode cX5_isBreak 5 = .ok (.iload 4, 2) := by decide +kernel
theorem dX5_isBreak_7 : decode cX5_isBreak 7 = .ok (.iconst 4, 1) := by decide +kernel
theorem dX5_isBreak_8 : decode cX5_isBreak 8 = .ok (.if_icmp .ge 37, 3) := by decide +kernel
theorem dX5_isBreak_11 : decode cX5_isBreak 11 = .ok (.aload_n 0, 1) := by decide +kernel
theorem dX5_isBreak_12 : decode cX5_isBreak 12 = .ok (.getfield 58, 3) := by decide +kernel
theorem dX5_isBreak_15 : decode cX5_isBreak 15 = .ok (.iload_n 1, 1) := by decide +kernel
theorem dX5_isBreak_16 : decode cX5_isBreak 16 = .ok (.iload 4, 2) := by decide +kernel
theorem dX5_isBreak_18 : decode cX5_isBreak 18 = .ok (.iadd, 1) := by decide +kernel
theorem dX5_isBreak_19 : decode cX5_isBreak 19 = .ok (.laload, 1) := by decide +kernel
theorem dX5_isBreak_20 : decode cX5_isBreak 20 = .ok (.lconst 0, 1) := by decide +kernel
theorem dX5_isBreak_21 : decode cX5_isBreak 21 = .ok (.lcmp, 1) := by decide +kernel
theorem dX5_isBreak_22 : decode cX5_isBreak 22 = .ok (.ifCond .ne 5, 3) := by decide +kernel
theorem dX5_isBreak_25 : decode cX5_isBreak 25 = .ok (.iconst 0, 1) := by decide +kernel
theorem dX5_isBreak_26 : decode cX5_isBreak 26 = .ok (.ireturn, 1) := by decide +kernel
theorem dX5_isBreak_27 : decode cX5_isBreak 27 = .ok (.lload_n 2, 1) := by decide +kernel
theorem dX5_isBreak_28 : decode cX5_isBreak 28 = .ok (.aload_n 0, 1) := by decide +kernel
theorem dX5_isBreak_29 : decode cX5_isBreak 29 = .ok (.getfield 58, 3) := by decide +kernel
theorem dX5_isBreak_32 : decode cX5_isBreak 32 = .ok (.iload_n 1, 1) := by decide +kernel
theorem dX5_isBreak_33 : decode cX5_isBreak 33 = .ok (.iload 4, 2) := by decide +kernel
theorem dX5_isBreak_35 : decode cX5_isBreak 35 = .ok (.iadd, 1) := by decide +kernel
theorem dX5_isBreak_36 : decode cX5_isBreak 36 = .ok (.laload, 1) := by decide +kernel
theorem dX5_isBreak_37 : decode cX5_isBreak 37 = .ok (.lmul, 1) := by decide +kernel
theorem dX5_isBreak_38 : decode cX5_isBreak 38 = .ok (.lstore_n 2, 1) := by decide +kernel
theorem dX5_isBreak_39 : decode cX5_isBreak 39 = .ok (.iinc 4 1, 3) := by decide +kernel
theorem dX5_isBreak_42 : decode cX5_isBreak 42 = .ok (.goto (-37), 3) := by decide +kernel
theorem dX5_isBreak_45 : decode cX5_isBreak 45 = .ok (.lconst 0, 1) := by decide +kernel
theorem dX5_isBreak_46 : decode cX5_isBreak 46 = .ok (.lstore 4, 2) := by decide +kernel
theorem dX5_isBreak_48 : decode cX5_isBreak 48 = .ok (.iconst 0, 1) := by decide +kernel
theorem dX5_isBreak_49 : decode cX5_isBreak 49 = .ok (.istore 6, 2) := by decide +kernel
theorem dX5_isBreak_51 : decode cX5_isBreak 51 = .ok (.iload 6, 2) := by decide +kernel
theorem dX5_isBreak_53 : decode cX5_isBreak 53 = .ok (.iconst 4, 1) := by decide +kernel
theorem dX5_isBreak_54 : decode cX5_isBreak 54 = .ok (.if_icmp .ge 76, 3) := by decide +kernel
theorem dX5_isBreak_57 : decode cX5_isBreak 57 = .ok (.iload 6, 2) := by decide +kernel
theorem dX5_isBreak_59 : decode cX5_isBreak 59 = .ok (.ifCond .ne 9, 3) := by decide +kernel
theorem dX5_isBreak_62 : decode cX5_isBreak 62 = .ok (.ldc2_w 155, 3) := by decide +kernel
theorem dX5_isBreak_65 : decode cX5_isBreak 65 = .ok (.goto 28, 3) := by decide +kernel
theorem dX5_isBreak_68 : decode cX5_isBreak 68 = .ok (.iload 6, 2) := by decide +kernel
theorem dX5_isBreak_70 : decode cX5_isBreak 70 = .ok (.iconst 1, 1) := by decide +kernel
theorem dX5_isBreak_71 : decode cX5_isBreak 71 = .ok (.if_icmp .ne 9, 3) := by decide +kernel
theorem dX5_isBreak_74 : decode cX5_isBreak 74 = .ok (.ldc2_w 89, 3) := by decide +kernel
theorem dX5_isBreak_77 : decode cX5_isBreak 77 = .ok (.goto 16, 3) := by decide +kernel
theorem dX5_isBreak_80 : decode cX5_isBreak 80 = .ok (.iload 6, 2) := by decide +kernel
theorem dX5_isBreak_82 : decode cX5_isBreak 82 = .ok (.iconst 2, 1) := by decide +kernel
theorem dX5_isBreak_83 : decode cX5_isBreak 83 = .ok (.if_icmp .ne 9, 3) := by decide +kernel
theorem dX5_isBreak_86 : decode cX5_isBreak 86 = .ok (.ldc2_w 204, 3) := by decide +kernel
theorem dX5_isBreak_89 : decode cX5_isBreak 89 = .ok (.goto 4, 3) := by decide +kernel
theorem dX5_isBreak_92 : decode cX5_isBreak 92 = .ok (.lconst 1, 1) := by decide +kernel
theorem dX5_isBreak_93 : decode cX5_isBreak 93 = .ok (.lstore 7, 2) := by decide +kernel
theorem dX5_isBreak_95 : decode cX5_isBreak 95 = .ok (.lload 4, 2) := by decide +kernel
theorem dX5_isBreak_97 : decode cX5_isBreak 97 = .ok (.lload 7, 2) := by decide +kernel
theorem dX5_isBreak_99 : decode cX5_isBreak 99 = .ok (.aload_n 0, 1) := by decide +kernel
theorem dX5_isBreak_100 : decode cX5_isBreak 100 = .ok (.getfield 55, 3) := by decide +kernel
theorem dX5_isBreak_103 : decode cX5_isBreak 103 = .ok (.iload_n 1, 1) := by decide +kernel
theorem dX5_isBreak_104 : decode cX5_isBreak 104 = .ok (.iload 6, 2) := by decide +kernel
theorem dX5_isBreak_106 : decode cX5_isBreak 106 = .ok (.iadd, 1) := by decide +kernel
theorem dX5_isBreak_107 : decode cX5_isBreak 107 = .ok (.laload, 1) := by decide +kernel
theorem dX5_isBreak_108 : decode cX5_isBreak 108 = .ok (.lmul, 1) := by decide +kernel
theorem dX5_isBreak_109 : decode cX5_isBreak 109 = .ok (.lload_n 2, 1) := by decide +kernel
theorem dX5_isBreak_110 : decode cX5_isBreak 110 = .ok (.aload_n 0, 1) := by decide +kernel
theorem dX5_isBreak_111 : decode cX5_isBreak 111 = .ok (.getfield 58, 3) := by decide +kernel
theorem dX5_isBreak_114 : decode cX5_isBreak 114 = .ok (.iload_n 1, 1) := by decide +kernel
theorem dX5_isBreak_115 : decode cX5_isBreak 115 = .ok (.iload 6, 2) := by decide +kernel
theorem dX5_isBreak_117 : decode cX5_isBreak 117 = .ok (.iadd, 1) := by decide +kernel
theorem dX5_isBreak_118 : decode cX5_isBreak 118 = .ok (.laload, 1) := by decide +kernel
theorem dX5_isBreak_119 : decode cX5_isBreak 119 = .ok (.ldiv, 1) := by decide +kernel
theorem dX5_isBreak_120 : decode cX5_isBreak 120 = .ok (.lmul, 1) := by decide +kernel
theorem dX5_isBreak_121 : decode cX5_isBreak 121 = .ok (.ladd, 1) := by decide +kernel
theorem dX5_isBreak_122 : decode cX5_isBreak 122 = .ok (.lstore 4, 2) := by decide +kernel
theorem dX5_isBreak_124 : decode cX5_isBreak 124 = .ok (.iinc 6 1, 3) := by decide +kernel
theorem dX5_isBreak_127 : decode cX5_isBreak 127 = .ok (.goto (-76), 3) := by decide +kernel
theorem dX5_isBreak_130 : decode cX5_isBreak 130 = .ok (.lload 4, 2) := by decide +kernel
theorem dX5_isBreak_132 : decode cX5_isBreak 132 = .ok (.lconst 0, 1) := by decide +kernel
theorem dX5_isBreak_133 : decode cX5_isBreak 133 = .ok (.lcmp, 1) := by decide +kernel
theorem dX5_isBreak_134 : decode cX5_isBreak 134 = .ok (.ifCond .ge 9, 3) := by decide +kernel
theorem dX5_isBreak_137 : decode cX5_isBreak 137 = .ok (.lload 4, 2) := by decide +kernel
theorem dX5_isBreak_139 : decode cX5_isBreak 139 = .ok (.lneg, 1) := by decide +kernel
theorem dX5_isBreak_140 : decode cX5_isBreak 140 = .ok (.goto 5, 3) := by decide +kernel
theorem dX5_isBreak_143 : decode cX5_isBreak 143 = .ok (.lload 4, 2) := by decide +kernel
theorem dX5_isBreak_145 : decode cX5_isBreak 145 = .ok (.lstore 4, 2) := by decide +kernel
theorem dX5_isBreak_147 : decode cX5_isBreak 147 = .ok (.ldc2_w 206, 3) := by decide +kernel
theorem dX5_isBreak_150 : decode cX5_isBreak 150 = .ok (.lload 4, 2) := by decide +kernel
theorem dX5_isBreak_152 : decode cX5_isBreak 152 = .ok (.lmul, 1) := by decide +kernel
theorem dX5_isBreak_153 : decode cX5_isBreak 153 = .ok (.aload_n 0, 1) := by decide +kernel
theorem dX5_isBreak_154 : decode cX5_isBreak 154 = .ok (.getfield 7, 3) := by decide +kernel
theorem dX5_isBreak_157 : decode cX5_isBreak 157 = .ok (.i2l, 1) := by decide +kernel
theorem dX5_isBreak_158 : decode cX5_isBreak 158 = .ok (.lload_n 2, 1) := by decide +kernel
theorem dX5_isBreak_159 : decode cX5_isBreak 159 = .ok (.lmul, 1) := by decide +kernel
theorem dX5_isBreak_160 : decode cX5_isBreak 160 = .ok (.lcmp, 1) := by decide +kernel
theorem dX5_isBreak_161 : decode cX5_isBreak 161 = .ok (.ifCond .le 7, 3) := by decide +kernel
theorem dX5_isBreak_164 : decode cX5_isBreak 164 = .ok (.iconst 1, 1) := by decide +kernel
theorem dX5_isBreak_165 : decode cX5_isBreak 165 = .ok (.goto 4, 3) := by decide +kernel
theorem dX5_isBreak_168 : decode cX5_isBreak 168 = .ok (.iconst 0, 1) := by decide +kernel
theorem dX5_isBreak_169 : decode cX5_isBreak 169 = .ok (.ireturn, 1) := by decide +kernel
theorem dX5_breaksAt_0 : decode cX5_breaksAt 0 = .ok (.iconst 0, 1) := by decide +kernel
theorem dX5_breaksAt_1 : decode cX5_breaksAt 1 = .ok (.istore_n 2, 1) := by decide +kernel
theorem dX5_breaksAt_2 : decode cX5_breaksAt 2 = .ok (.iload_n 2, 1) := by decide +kernel
theorem dX5_breaksAt_3 : decode cX5_breaksAt 3 = .ok (.aload_n 0, 1) := by decide +kernel
theorem dX5_breaksAt_4 : decode cX5_breaksAt 4 = .ok (.getfield 61, 3) := by decide +kernel
theorem dX5_breaksAt_7 : decode cX5_breaksAt 7 = .ok (.if_icmp .ge 52, 3) := by decide +kernel
theorem dX5_breaksAt_10 : decode cX5_breaksAt 10 = .ok (.aload_n 0, 1) := by decide +kernel
theorem dX5_breaksAt_11 : decode cX5_breaksAt 11 = .ok (.iload_n 2, 1) := by decide +kernel
theorem dX5_breaksAt_12 : decode cX5_breaksAt 12 = .ok (.iload_n 1, 1) := by decide +kernel
theorem dX5_breaksAt_13 : decode cX5_breaksAt 13 = .ok (.invokevirtual 201, 3) := by decide +kernel
theorem dX5_breaksAt_16 : decode cX5_breaksAt 16 = .ok (.istore_n 3, 1) := by decide +kernel
theorem dX5_breaksAt_17 : decode cX5_breaksAt 17 = .ok (.aload_n 0, 1) := by decide +kernel
theorem dX5_breaksAt_18 : decode cX5_breaksAt 18 = .ok (.getfield 55, 3) := by decide +kernel
theorem dX5_breaksAt_21 : decode cX5_breaksAt 21 = .ok (.iload_n 2, 1) := by decide +kernel
theorem dX5_breaksAt_22 : decode cX5_breaksAt 22 = .ok (.iload_n 3, 1) := by decide +kernel
theorem dX5_breaksAt_23 : decode cX5_breaksAt 23 = .ok (.ifCond .eq 10, 3) := by decide +kernel
theorem dX5_breaksAt_26 : decode cX5_breaksAt 26 = .ok (.aload_n 0, 1) := by decide +kernel
theorem dX5_breaksAt_27 : decode cX5_breaksAt 27 = .ok (.getfield 195, 3) := by decide +kernel
theorem dX5_breaksAt_30 : decode cX5_breaksAt 30 = .ok (.goto 4, 3) := by decide +kernel
theorem dX5_breaksAt_33 : decode cX5_breaksAt 33 = .ok (.lconst 0, 1) := by decide +kernel
theorem dX5_breaksAt_34 : decode cX5_breaksAt 34 = .ok (.lastore, 1) := by decide +kernel
theorem dX5_breaksAt_35 : decode cX5_breaksAt 35 = .ok (.aload_n 0, 1) := by decide +kernel
theorem dX5_breaksAt_36 : decode cX5_breaksAt 36 = .ok (.getfield 58, 3) := by decide +kernel
theorem dX5_breaksAt_39 : decode cX5_breaksAt 39 = .ok (.iload_n 2, 1) := by decide +kernel
theorem dX5_breaksAt_40 : decode cX5_breaksAt 40 = .ok (.iload_n 3, 1) := by decide +kernel
theorem dX5_breaksAt_41 : decode cX5_breaksAt 41 = .ok (.ifCond .eq 10, 3) := by decide +kernel
theorem dX5_breaksAt_44 : decode cX5_breaksAt 44 = .ok (.aload_n 0, 1) := by decide +kernel
theorem dX5_breaksAt_45 : decode cX5_breaksAt 45 = .ok (.getfield 191, 3) := by decide +kernel
theorem dX5_breaksAt_48 : decode cX5_breaksAt 48 = .ok (.goto 4, 3) := by decide +kernel
theorem dX5_breaksAt_51 : decode cX5_breaksAt 51 = .ok (.lconst 0, 1) := by decide +kernel
theorem dX5_breaksAt_52 : decode cX5_breaksAt 52 = .ok (.lastore, 1) := by decide +kernel
theorem dX5_breaksAt_53 : decode cX5_breaksAt 53 = .ok (.iinc 2 1, 3) := by decide +kernel
theorem dX5_breaksAt_56 : decode cX5_breaksAt 56 = .ok (.goto (-54), 3) := by decide +kernel
theorem dX5_breaksAt_59 : decode cX5_breaksAt 59 = .ok (.iconst 0, 1) := by decide +kernel
theorem dX5_breaksAt_60 : decode cX5_breaksAt 60 = .ok (.istore_n 2, 1) := by decide +kernel
theorem dX5_breaksAt_61 : decode cX5_breaksAt 61 = .ok (.iconst 0, 1) := by decide +kernel
theorem dX5_breaksAt_62 : decode cX5_breaksAt 62 = .ok (.istore_n 3, 1) := by decide +kernel
theorem dX5_breaksAt_63 : decode cX5_breaksAt 63 = .ok (.iload_n 3, 1) := by decide +kernel
theorem dX5_breaksAt_64 : decode cX5_breaksAt 64 = .ok (.iconst 3, 1) := by decide +kernel
theorem dX5_breaksAt_65 : decode cX5_breaksAt 65 = .ok (.iadd, 1) := by decide +kernel
theorem dX5_breaksAt_66 : decode cX5_breaksAt 66 = .ok (.aload_n 0, 1) := by decide +kernel
theorem dX5_breaksAt_67 : decode cX5_breaksAt 67 = .ok (.getfield 61, 3) := by decide +kernel
theorem dX5_breaksAt_70 : decode cX5_breaksAt 70 = .ok (.if_icmp .ge 25, 3) := by decide +kernel
theorem dX5_breaksAt_73 : decode cX5_breaksAt 73 = .ok (.iload_n 2, 1) := by decide +kernel
theorem dX5_breaksAt_74 : decode cX5_breaksAt 74 = .ok (.aload_n 0, 1) := by decide +kernel
theorem dX5_breaksAt_75 : decode cX5_breaksAt 75 = .ok (.iload_n 3, 1) := by decide +kernel
theorem dX5_breaksAt_76 : decode cX5_breaksAt 76 = .ok (.invokevirtual 208, 3) := by decide +kernel
theorem dX5_breaksAt_79 : decode cX5_breaksAt 79 = .ok (.ifCond .eq 7, 3) := by decide +kernel
theorem dX5_breaksAt_82 : decode cX5_breaksAt 82 = .ok (.iconst 1, 1) := by decide +kernel
theorem dX5_breaksAt_83 : decode cX5_breaksAt 83 = .ok (.goto 4, 3) := by decide +kernel
theorem dX5_breaksAt_86 : decode cX5_breaksAt 86 = .ok (.iconst 0, 1) := by decide +kernel
theorem dX5_breaksAt_87 : decode cX5_breaksAt 87 = .ok (.iadd, 1) := by decide +kernel
theorem dX5_breaksAt_88 : decode cX5_breaksAt 88 = .ok (.istore_n 2, 1) := by decide +kernel
theorem dX5_breaksAt_89 : decode cX5_breaksAt 89 = .ok (.iinc 3 1, 3) := by decide +kernel
theorem dX5_breaksAt_92 : decode cX5_breaksAt 92 = .ok (.goto (-29), 3) := by decide +kernel
theorem dX5_breaksAt_95 : decode cX5_breaksAt 95 = .ok (.iload_n 2, 1) := by decide +kernel
theorem dX5_breaksAt_96 : decode cX5_breaksAt 96 = .ok (.ireturn, 1) := by decide +kernel
theorem dX5_breaks_0 : decode cX5_breaks 0 = .ok (.iload_n 1, 1) := by decide +kernel
theorem dX5_breaks_1 : decode cX5_breaks 1 = .ok (.invokestatic 198, 3) := by decide +kernel
theorem dX5_breaks_4 : decode cX5_breaks 4 = .ok (.ifCond .eq 11, 3) := by decide +kernel
theorem dX5_breaks_7 : decode cX5_breaks 7 = .ok (.aload_n 0, 1) := by decide +kernel
theorem dX5_breaks_8 : decode cX5_breaks 8 = .ok (.iload_n 1, 1) := by decide +kernel
theorem dX5_breaks_9 : decode cX5_breaks 9 = .ok (.invokevirtual 211, 3) := by decide +kernel
theorem dX5_breaks_12 : decode cX5_breaks 12 = .ok (.goto 5, 3) := by decide +kernel
theorem dX5_breaks_15 : decode cX5_breaks 15 = .ok (.bipush (-2), 2) := by decide +kernel
theorem dX5_breaks_17 : decode cX5_breaks 17 = .ok (.ireturn, 1) := by decide +kernel
theorem dX5_worst_0 : decode cX5_worst 0 = .ok (.iconst 0, 1) := by decide +kernel
theorem dX5_worst_1 : decode cX5_worst 1 = .ok (.istore_n 1, 1) := by decide +kernel
theorem dX5_worst_2 : decode cX5_worst 2 = .ok (.iconst (-1), 1) := by decide +kernel
theorem dX5_worst_3 : decode cX5_worst 3 = .ok (.istore_n 2, 1) := by decide +kernel
theorem dX5_worst_4 : decode cX5_worst 4 = .ok (.iconst 1, 1) := by decide +kernel
theorem dX5_worst_5 : decode cX5_worst 5 = .ok (.istore_n 3, 1) := by decide +kernel
theorem dX5_worst_6 : decode cX5_worst 6 = .ok (.iload_n 3, 1) := by decide +kernel
theorem dX5_worst_7 : decode cX5_worst 7 = .ok (.sipush 999, 3) := by decide +kernel
theorem dX5_worst_10 : decode cX5_worst 10 = .ok (.if_icmp .gt 41, 3) := by decide +kernel
theorem dX5_worst_13 : decode cX5_worst 13 = .ok (.aload_n 0, 1) := by decide +kernel
theorem dX5_worst_14 : decode cX5_worst 14 = .ok (.iload_n 3, 1) := by decide +kernel
theorem dX5_worst_15 : decode cX5_worst 15 = .ok (.invokevirtual 211, 3) := by decide +kernel
theorem dX5_worst_18 : decode cX5_worst 18 = .ok (.istore 4, 2) := by decide +kernel
theorem dX5_worst_20 : decode cX5_worst 20 = .ok (.iload 4, 2) := by decide +kernel
theorem dX5_worst_22 : decode cX5_worst 22 = .ok (.iload_n 2, 1) := by decide +kernel
theorem dX5_worst_23 : decode cX5_worst 23 = .ok (.if_icmp .le 7, 3) := by decide +kernel
theorem dX5_worst_26 : decode cX5_worst 26 = .ok (.iload_n 3, 1) := by decide +kernel
theorem dX5_worst_27 : decode cX5_worst 27 = .ok (.goto 4, 3) := by decide +kernel
theorem dX5_worst_30 : decode cX5_worst 30 = .ok (.iload_n 1, 1) := by decide +kernel
theorem dX5_worst_31 : decode cX5_worst 31 = .ok (.istore_n 1, 1) := by decide +kernel
theorem dX5_worst_32 : decode cX5_worst 32 = .ok (.iload 4, 2) := by decide +kernel
theorem dX5_worst_34 : decode cX5_worst 34 = .ok (.iload_n 2, 1) := by decide +kernel
theorem dX5_worst_35 : decode cX5_worst 35 = .ok (.if_icmp .le 8, 3) := by decide +kernel
theorem dX5_worst_38 : decode cX5_worst 38 = .ok (.iload 4, 2) := by decide +kernel
theorem dX5_worst_40 : decode cX5_worst 40 = .ok (.goto 4, 3) := by decide +kernel
theorem dX5_worst_43 : decode cX5_worst 43 = .ok (.iload_n 2, 1) := by decide +kernel
theorem dX5_worst_44 : decode cX5_worst 44 = .ok (.istore_n 2, 1) := by decide +kernel
theorem dX5_worst_45 : decode cX5_worst 45 = .ok (.iinc 3 1, 3) := by decide +kernel
theorem dX5_worst_48 : decode cX5_worst 48 = .ok (.goto (-42), 3) := by decide +kernel
theorem dX5_worst_51 : decode cX5_worst 51 = .ok (.iload_n 1, 1) := by decide +kernel
theorem dX5_worst_52 : decode cX5_worst 52 = .ok (.ireturn, 1) := by decide +kernel
theorem dX5_manyRough_0 : decode cX5_manyRough 0 = .ok (.iconst 0, 1) := by decide +kernel
theorem dX5_manyRough_1 : decode cX5_manyRough 1 = .ok (.istore_n 1, 1) := by decide +kernel
theorem dX5_manyRough_2 : decode cX5_manyRough 2 = .ok (.iconst 0, 1) := by decide +kernel
theorem dX5_manyRough_3 : decode cX5_manyRough 3 = .ok (.istore_n 2, 1) := by decide +kernel
theorem dX5_manyRough_4 : decode cX5_manyRough 4 = .ok (.iload_n 2, 1) := by decide +kernel
theorem dX5_manyRough_5 : decode cX5_manyRough 5 = .ok (.iconst 2, 1) := by decide +kernel
theorem dX5_manyRough_6 : decode cX5_manyRough 6 = .ok (.if_icmp .ge 47, 3) := by decide +kernel
theorem dX5_manyRough_9 : decode cX5_manyRough 9 = .ok (.iconst 0, 1) := by decide +kernel
theorem dX5_manyRough_10 : decode cX5_manyRough 10 = .ok (.istore_n 3, 1) := by decide +kernel
theorem dX5_manyRough_11 : decode cX5_manyRough 11 = .ok (.iload_n 3, 1) := by decide +kernel
theorem dX5_manyRough_12 : decode cX5_manyRough 12 = .ok (.aload_n 0, 1) := by decide +kernel
theorem dX5_manyRough_13 : decode cX5_manyRough 13 = .ok (.iload_n 2, 1) := by decide +kernel
theorem dX5_manyRough_14 : decode cX5_manyRough 14 = .ok (.invokevirtual 93, 3) := by decide +kernel
theorem dX5_manyRough_17 : decode cX5_manyRough 17 = .ok (.if_icmp .ge 30, 3) := by decide +kernel
theorem dX5_manyRough_20 : decode cX5_manyRough 20 = .ok (.aload_n 0, 1) := by decide +kernel
theorem dX5_manyRough_21 : decode cX5_manyRough 21 = .ok (.iload_n 2, 1) := by decide +kernel
theorem dX5_manyRough_22 : decode cX5_manyRough 22 = .ok (.iload_n 3, 1) := by decide +kernel
theorem dX5_manyRough_23 : decode cX5_manyRough 23 = .ok (.invokevirtual 109, 3) := by decide +kernel
theorem dX5_manyRough_26 : decode cX5_manyRough 26 = .ok (.iload_n 1, 1) := by decide +kernel
theorem dX5_manyRough_27 : decode cX5_manyRough 27 = .ok (.aload_n 0, 1) := by decide +kernel
theorem dX5_manyRough_28 : decode cX5_manyRough 28 = .ok (.invokevirtual 123, 3) := by decide +kernel
theorem dX5_manyRough_31 : decode cX5_manyRough 31 = .ok (.ifCond .le 7, 3) := by decide +kernel
theorem dX5_manyRough_34 : decode cX5_manyRough 34 = .ok (.iconst 1, 1) := by decide +kernel
theorem dX5_manyRough_35 : decode cX5_manyRough 35 = .ok (.goto 4, 3) := by decide +kernel
theorem dX5_manyRough_38 : decode cX5_manyRough 38 = .ok (.iconst 0, 1) := by decide +kernel
theorem dX5_manyRough_39 : decode cX5_manyRough 39 = .ok (.iadd, 1) := by decide +kernel
theorem dX5_manyRough_40 : decode cX5_manyRough 40 = .ok (.istore_n 1, 1) := by decide +kernel
theorem dX5_manyRough_41 : decode cX5_manyRough 41 = .ok (.iinc 3 1, 3) := by decide +kernel
theorem dX5_manyRough_44 : decode cX5_manyRough 44 = .ok (.goto (-33), 3) := by decide +kernel
theorem dX5_manyRough_47 : decode cX5_manyRough 47 = .ok (.iinc 2 1, 3) := by decide +kernel
theorem dX5_manyRough_50 : decode cX5_manyRough 50 = .ok (.goto (-46), 3) := by decide +kernel
theorem dX5_manyRough_53 : decode cX5_manyRough 53 = .ok (.iload_n 1, 1) := by decide +kernel
theorem dX5_manyRough_54 : decode cX5_manyRough 54 = .ok (.ireturn, 1) := by decide +kernel
theorem dX5_manyHeld_0 : decode cX5_manyHeld 0 = .ok (.iconst 0, 1) := by decide +kernel
theorem dX5_manyHeld_1 : decode cX5_manyHeld 1 = .ok (.istore_n 1, 1) := by decide +kernel
theorem dX5_manyHeld_2 : decode cX5_manyHeld 2 = .ok (.iconst 0, 1) := by decide +kernel
theorem dX5_manyHeld_3 : decode cX5_manyHeld 3 = .ok (.istore_n 2, 1) := by decide +kernel
theorem dX5_manyHeld_4 : decode cX5_manyHeld 4 = .ok (.iload_n 2, 1) := by decide +kernel
theorem dX5_manyHeld_5 : decode cX5_manyHeld 5 = .ok (.bipush 63, 2) := by decide +kernel
theorem dX5_manyHeld_7 : decode cX5_manyHeld 7 = .ok (.if_icmp .ge 26, 3) := by decide +kernel
theorem dX5_manyHeld_10 : decode cX5_manyHeld 10 = .ok (.iload_n 1, 1) := by decide +kernel
theorem dX5_manyHeld_11 : decode cX5_manyHeld 11 = .ok (.aload_n 0, 1) := by decide +kernel
theorem dX5_manyHeld_12 : decode cX5_manyHeld 12 = .ok (.getfield 29, 3) := by decide +kernel
theorem dX5_manyHeld_15 : decode cX5_manyHeld 15 = .ok (.iload_n 2, 1) := by decide +kernel
theorem dX5_manyHeld_16 : decode cX5_manyHeld 16 = .ok (.baload, 1) := by decide +kernel
theorem dX5_manyHeld_17 : decode cX5_manyHeld 17 = .ok (.ifCond .eq 7, 3) := by decide +kernel
theorem dX5_manyHeld_20 : decode cX5_manyHeld 20 = .ok (.iconst 1, 1) := by decide +kernel
theorem dX5_manyHeld_21 : decode cX5_manyHeld 21 = .ok (.goto 4, 3) := by decide +kernel
theorem dX5_manyHeld_24 : decode cX5_manyHeld 24 = .ok (.iconst 0, 1) := by decide +kernel
theorem dX5_manyHeld_25 : decode cX5_manyHeld 25 = .ok (.iadd, 1) := by decide +kernel
theorem dX5_manyHeld_26 : decode cX5_manyHeld 26 = .ok (.istore_n 1, 1) := by decide +kernel
theorem dX5_manyHeld_27 : decode cX5_manyHeld 27 = .ok (.iinc 2 1, 3) := by decide +kernel
theorem dX5_manyHeld_30 : decode cX5_manyHeld 30 = .ok (.goto (-26), 3) := by decide +kernel
theorem dX5_manyHeld_33 : decode cX5_manyHeld 33 = .ok (.iload_n 1, 1) := by decide +kernel
theorem dX5_manyHeld_34 : decode cX5_manyHeld 34 = .ok (.ireturn, 1) := by decide +kernel
theorem dX5_farOff_0 : decode cX5_farOff 0 = .ok (.iconst 0, 1) := by decide +kernel
theorem dX5_farOff_1 : decode cX5_farOff 1 = .ok (.istore_n 1, 1) := by decide +kernel
theorem dX5_farOff_2 : decode cX5_farOff 2 = .ok (.iconst 0, 1) := by decide +kernel
theorem dX5_farOff_3 : decode cX5_farOff 3 = .ok (.istore_n 2, 1) := by decide +kernel
theorem dX5_farOff_4 : decode cX5_farOff 4 = .ok (.iload_n 2, 1) := by decide +kernel
theorem dX5_farOff_5 : decode cX5_farOff 5 = .ok (.bipush 63, 2) := by decide +kernel
theorem dX5_farOff_7 : decode cX5_farOff 7 = .ok (.if_icmp .ge 28, 3) := by decide +kernel
theorem dX5_farOff_10 : decode cX5_farOff 10 = .ok (.iload_n 1, 1) := by decide +kernel
theorem dX5_farOff_11 : decode cX5_farOff 11 = .ok (.aload_n 0, 1) := by decide +kernel
theorem dX5_farOff_12 : decode cX5_farOff 12 = .ok (.getfield 22, 3) := by decide +kernel
theorem dX5_farOff_15 : decode cX5_farOff 15 = .ok (.iload_n 2, 1) := by decide +kernel
theorem dX5_farOff_16 : decode cX5_farOff 16 = .ok (.iaload, 1) := by decide +kernel
theorem dX5_farOff_17 : decode cX5_farOff 17 = .ok (.aload_n 0, 1) := by decide +kernel
theorem dX5_farOff_18 : decode cX5_farOff 18 = .ok (.getfield 26, 3) := by decide +kernel
theorem dX5_farOff_21 : decode cX5_farOff 21 = .ok (.iload_n 2, 1) := by decide +kernel
theorem dX5_farOff_22 : decode cX5_farOff 22 = .ok (.iaload, 1) := by decide +kernel
theorem dX5_farOff_23 : decode cX5_farOff 23 = .ok (.isub, 1) := by decide +kernel
theorem dX5_farOff_24 : decode cX5_farOff 24 = .ok (.invokestatic 120, 3) := by decide +kernel
theorem dX5_farOff_27 : decode cX5_farOff 27 = .ok (.iadd, 1) := by decide +kernel
theorem dX5_farOff_28 : decode cX5_farOff 28 = .ok (.istore_n 1, 1) := by decide +kernel
theorem dX5_farOff_29 : decode cX5_farOff 29 = .ok (.iinc 2 1, 3) := by decide +kernel
theorem dX5_farOff_32 : decode cX5_farOff 32 = .ok (.goto (-28), 3) := by decide +kernel
theorem dX5_farOff_35 : decode cX5_farOff 35 = .ok (.iload_n 1, 1) := by decide +kernel
theorem dX5_farOff_36 : decode cX5_farOff 36 = .ok (.ireturn, 1) := by decide +kernel
theorem dX5_many_0 : decode cX5_many 0 = .ok (.iload_n 1, 1) := by decide +kernel
theorem dX5_many_1 : decode cX5_many 1 = .ok (.tableswitch 60 0 4 #[35, 40, 45, 50, 55], 35) := by decide +kernel
theorem dX5_many_36 : decode cX5_many 36 = .ok (.aload_n 0, 1) := by decide +kernel
theorem dX5_many_37 : decode cX5_many 37 = .ok (.getfield 61, 3) := by decide +kernel
theorem dX5_many_40 : decode cX5_many 40 = .ok (.ireturn, 1) := by decide +kernel
theorem dX5_many_41 : decode cX5_many 41 = .ok (.aload_n 0, 1) := by decide +kernel
theorem dX5_many_42 : decode cX5_many 42 = .ok (.getfield 64, 3) := by decide +kernel
theorem dX5_many_45 : decode cX5_many 45 = .ok (.ireturn, 1) := by decide +kernel
theorem dX5_many_46 : decode cX5_many 46 = .ok (.aload_n 0, 1) := by decide +kernel
theorem dX5_many_47 : decode cX5_many 47 = .ok (.invokevirtual 214, 3) := by decide +kernel
theorem dX5_many_50 : decode cX5_many 50 = .ok (.ireturn, 1) := by decide +kernel
theorem dX5_many_51 : decode cX5_many 51 = .ok (.aload_n 0, 1) := by decide +kernel
theorem dX5_many_52 : decode cX5_many 52 = .ok (.invokevirtual 217, 3) := by decide +kernel
theorem dX5_many_55 : decode cX5_many 55 = .ok (.ireturn, 1) := by decide +kernel
theorem dX5_many_56 : decode cX5_many 56 = .ok (.aload_n 0, 1) := by decide +kernel
theorem dX5_many_57 : decode cX5_many 57 = .ok (.invokevirtual 220, 3) := by decide +kernel
theorem dX5_many_60 : decode cX5_many 60 = .ok (.ireturn, 1) := by decide +kernel
theorem dX5_many_61 : decode cX5_many 61 = .ok (.bipush (-2), 2) := by decide +kernel
theorem dX5_many_63 : decode cX5_many 63 = .ok (.ireturn, 1) := by decide +kernel
