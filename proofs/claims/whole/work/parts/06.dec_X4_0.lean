theorem dX4_init_0 : decode cX4_init 0 = .ok (.aload_n 0, 1) := by decide +kernel
theorem dX4_init_1 : decode cX4_init 1 = .ok (.invokespecial 5, 3) := by decide +kernel
theorem dX4_init_4 : decode cX4_init 4 = .ok (.aload_n 0, 1) := by decide +kernel
theorem dX4_init_5 : decode cX4_init 5 = .ok (.new 11, 3) := by decide +kernel
theorem dX4_init_8 : decode cX4_init 8 = .ok (.dup, 1) := by decide +kernel
theorem dX4_init_9 : decode cX4_init 9 = .ok (.invokespecial 13, 3) := by decide +kernel
theorem dX4_init_12 : decode cX4_init 12 = .ok (.putfield 14, 3) := by decide +kernel
theorem dX4_init_15 : decode cX4_init 15 = .ok (.aload_n 0, 1) := by decide +kernel
theorem dX4_init_16 : decode cX4_init 16 = .ok (.new 18, 3) := by decide +kernel
theorem dX4_init_19 : decode cX4_init 19 = .ok (.dup, 1) := by decide +kernel
theorem dX4_init_20 : decode cX4_init 20 = .ok (.invokespecial 20, 3) := by decide +kernel
theorem dX4_init_23 : decode cX4_init 23 = .ok (.putfield 21, 3) := by decide +kernel
theorem dX4_init_26 : decode cX4_init 26 = .ok (.aload_n 0, 1) := by decide +kernel
theorem dX4_init_27 : decode cX4_init 27 = .ok (.new 25, 3) := by decide +kernel
theorem dX4_init_30 : decode cX4_init 30 = .ok (.dup, 1) := by decide +kernel
theorem dX4_init_31 : decode cX4_init 31 = .ok (.invokespecial 27, 3) := by decide +kernel
theorem dX4_init_34 : decode cX4_init 34 = .ok (.putfield 28, 3) := by decide +kernel
theorem dX4_init_37 : decode cX4_init 37 = .ok (.aload_n 0, 1) := by decide +kernel
theorem dX4_init_38 : decode cX4_init 38 = .ok (.new 32, 3) := by decide +kernel
theorem dX4_init_41 : decode cX4_init 41 = .ok (.dup, 1) := by decide +kernel
theorem dX4_init_42 : decode cX4_init 42 = .ok (.invokespecial 34, 3) := by decide +kernel
theorem dX4_init_45 : decode cX4_init 45 = .ok (.putfield 35, 3) := by decide +kernel
theorem dX4_init_48 : decode cX4_init 48 = .ok (.aload_n 0, 1) := by decide +kernel
theorem dX4_init_49 : decode cX4_init 49 = .ok (.getstatic 39, 3) := by decide +kernel
theorem dX4_init_52 : decode cX4_init 52 = .ok (.invokevirtual 43, 3) := by decide +kernel
theorem dX4_init_55 : decode cX4_init 55 = .ok (.checkcast 44, 3) := by decide +kernel
theorem dX4_init_58 : decode cX4_init 58 = .ok (.putfield 48, 3) := by decide +kernel
theorem dX4_init_61 : decode cX4_init 61 = .ok (.aload_n 0, 1) := by decide +kernel
theorem dX4_init_62 : decode cX4_init 62 = .ok (.bipush 63, 2) := by decide +kernel
theorem dX4_init_64 : decode cX4_init 64 = .ok (.newarray .int, 2) := by decide +kernel
theorem dX4_init_66 : decode cX4_init 66 = .ok (.putfield 51, 3) := by decide +kernel
theorem dX4_init_69 : decode cX4_init 69 = .ok (.aload_n 0, 1) := by decide +kernel
theorem dX4_init_70 : decode cX4_init 70 = .ok (.bipush 9, 2) := by decide +kernel
theorem dX4_init_72 : decode cX4_init 72 = .ok (.newarray .int, 2) := by decide +kernel
theorem dX4_init_74 : decode cX4_init 74 = .ok (.putfield 54, 3) := by decide +kernel
theorem dX4_init_77 : decode cX4_init 77 = .ok (.aload_n 0, 1) := by decide +kernel
theorem dX4_init_78 : decode cX4_init 78 = .ok (.getfield 14, 3) := by decide +kernel
theorem dX4_init_81 : decode cX4_init 81 = .ok (.bipush 7, 2) := by decide +kernel
theorem dX4_init_83 : decode cX4_init 83 = .ok (.iconst 5, 1) := by decide +kernel
theorem dX4_init_84 : decode cX4_init 84 = .ok (.invokevirtual 57, 3) := by decide +kernel
theorem dX4_init_87 : decode cX4_init 87 = .ok (.return_, 1) := by decide +kernel
theorem dX4_hull_0 : decode cX4_hull 0 = .ok (.iload_n 1, 1) := by decide +kernel
theorem dX4_hull_1 : decode cX4_hull 1 = .ok (.iconst 5, 1) := by decide +kernel
theorem dX4_hull_2 : decode cX4_hull 2 = .ok (.bipush 9, 2) := by decide +kernel
theorem dX4_hull_4 : decode cX4_hull 4 = .ok (.invokestatic 61, 3) := by decide +kernel
theorem dX4_hull_7 : decode cX4_hull 7 = .ok (.ifCond .ne 13, 3) := by decide +kernel
theorem dX4_hull_10 : decode cX4_hull 10 = .ok (.iload_n 2, 1) := by decide +kernel
theorem dX4_hull_11 : decode cX4_hull 11 = .ok (.iconst 4, 1) := by decide +kernel
theorem dX4_hull_12 : decode cX4_hull 12 = .ok (.bipush 7, 2) := by decide +kernel
theorem dX4_hull_14 : decode cX4_hull 14 = .ok (.invokestatic 61, 3) := by decide +kernel
theorem dX4_hull_17 : decode cX4_hull 17 = .ok (.ifCond .eq 6, 3) := by decide +kernel
theorem dX4_hull_20 : decode cX4_hull 20 = .ok (.bipush (-2), 2) := by decide +kernel
theorem dX4_hull_22 : decode cX4_hull 22 = .ok (.ireturn, 1) := by decide +kernel
theorem dX4_hull_23 : decode cX4_hull 23 = .ok (.aload_n 0, 1) := by decide +kernel
theorem dX4_hull_24 : decode cX4_hull 24 = .ok (.getfield 14, 3) := by decide +kernel
theorem dX4_hull_27 : decode cX4_hull 27 = .ok (.iload_n 1, 1) := by decide +kernel
theorem dX4_hull_28 : decode cX4_hull 28 = .ok (.iload_n 2, 1) := by decide +kernel
theorem dX4_hull_29 : decode cX4_hull 29 = .ok (.invokevirtual 57, 3) := by decide +kernel
theorem dX4_hull_32 : decode cX4_hull 32 = .ok (.iconst 1, 1) := by decide +kernel
theorem dX4_hull_33 : decode cX4_hull 33 = .ok (.ireturn, 1) := by decide +kernel
theorem dX4_offset_0 : decode cX4_offset 0 = .ok (.aload_n 0, 1) := by decide +kernel
theorem dX4_offset_1 : decode cX4_offset 1 = .ok (.getfield 14, 3) := by decide +kernel
theorem dX4_offset_4 : decode cX4_offset 4 = .ok (.iload_n 1, 1) := by decide +kernel
theorem dX4_offset_5 : decode cX4_offset 5 = .ok (.iload_n 2, 1) := by decide +kernel
theorem dX4_offset_6 : decode cX4_offset 6 = .ok (.invokevirtual 65, 3) := by decide +kernel
theorem dX4_offset_9 : decode cX4_offset 9 = .ok (.ifCond .ne 5, 3) := by decide +kernel
theorem dX4_offset_12 : decode cX4_offset 12 = .ok (.iconst (-1), 1) := by decide +kernel
theorem dX4_offset_13 : decode cX4_offset 13 = .ok (.ireturn, 1) := by decide +kernel
theorem dX4_offset_14 : decode cX4_offset 14 = .ok (.iload_n 3, 1) := by decide +kernel
theorem dX4_offset_15 : decode cX4_offset 15 = .ok (.iconst 0, 1) := by decide +kernel
theorem dX4_offset_16 : decode cX4_offset 16 = .ok (.sipush 999, 3) := by decide +kernel
theorem dX4_offset_19 : decode cX4_offset 19 = .ok (.invokestatic 61, 3) := by decide +kernel
theorem dX4_offset_22 : decode cX4_offset 22 = .ok (.ifCond .eq 6, 3) := by decide +kernel
theorem dX4_offset_25 : decode cX4_offset 25 = .ok (.bipush (-2), 2) := by decide +kernel
theorem dX4_offset_27 : decode cX4_offset 27 = .ok (.ireturn, 1) := by decide +kernel
theorem dX4_offset_28 : decode cX4_offset 28 = .ok (.aload_n 0, 1) := by decide +kernel
theorem dX4_offset_29 : decode cX4_offset 29 = .ok (.getfield 14, 3) := by decide +kernel
theorem dX4_offset_32 : decode cX4_offset 32 = .ok (.iload_n 1, 1) := by decide +kernel
theorem dX4_offset_33 : decode cX4_offset 33 = .ok (.iload_n 2, 1) := by decide +kernel
theorem dX4_offset_34 : decode cX4_offset 34 = .ok (.invokestatic 69, 3) := by decide +kernel
theorem dX4_offset_37 : decode cX4_offset 37 = .ok (.iload_n 3, 1) := by decide +kernel
theorem dX4_offset_38 : decode cX4_offset 38 = .ok (.invokevirtual 73, 3) := by decide +kernel
theorem dX4_offset_41 : decode cX4_offset 41 = .ok (.ireturn, 1) := by decide +kernel
theorem dX4_hold_0 : decode cX4_hold 0 = .ok (.aload_n 0, 1) := by decide +kernel
theorem dX4_hold_1 : decode cX4_hold 1 = .ok (.getfield 14, 3) := by decide +kernel
theorem dX4_hold_4 : decode cX4_hold 4 = .ok (.iload_n 1, 1) := by decide +kernel
theorem dX4_hold_5 : decode cX4_hold 5 = .ok (.iload_n 2, 1) := by decide +kernel
theorem dX4_hold_6 : decode cX4_hold 6 = .ok (.invokevirtual 65, 3) := by decide +kernel
theorem dX4_hold_9 : decode cX4_hold 9 = .ok (.ifCond .ne 5, 3) := by decide +kernel
theorem dX4_hold_12 : decode cX4_hold 12 = .ok (.iconst (-1), 1) := by decide +kernel
theorem dX4_hold_13 : decode cX4_hold 13 = .ok (.ireturn, 1) := by decide +kernel
theorem dX4_hold_14 : decode cX4_hold 14 = .ok (.iload_n 1, 1) := by decide +kernel
theorem dX4_hold_15 : decode cX4_hold 15 = .ok (.iload_n 2, 1) := by decide +kernel
theorem dX4_hold_16 : decode cX4_hold 16 = .ok (.invokestatic 69, 3) := by decide +kernel
theorem dX4_hold_19 : decode cX4_hold 19 = .ok (.istore 4, 2) := by decide +kernel
theorem dX4_hold_21 : decode cX4_hold 21 = .ok (.aload_n 0, 1) := by decide +kernel
theorem dX4_hold_22 : decode cX4_hold 22 = .ok (.getfield 14, 3) := by decide +kernel
theorem dX4_hold_25 : decode cX4_hold 25 = .ok (.getfield 76, 3) := by decide +kernel
theorem dX4_hold_28 : decode cX4_hold 28 = .ok (.iload 4, 2) := by decide +kernel
theorem dX4_hold_30 : decode cX4_hold 30 = .ok (.baload, 1) := by decide +kernel
theorem dX4_hold_31 : decode cX4_hold 31 = .ok (.iload_n 3, 1) := by decide +kernel
theorem dX4_hold_32 : decode cX4_hold 32 = .ok (.if_icmp .ne 5, 3) := by decide +kernel
theorem dX4_hold_35 : decode cX4_hold 35 = .ok (.iconst 0, 1) := by decide +kernel
theorem dX4_hold_36 : decode cX4_hold 36 = .ok (.ireturn, 1) := by decide +kernel
theorem dX4_hold_37 : decode cX4_hold 37 = .ok (.aload_n 0, 1) := by decide +kernel
theorem dX4_hold_38 : decode cX4_hold 38 = .ok (.getfield 14, 3) := by decide +kernel
theorem dX4_hold_41 : decode cX4_hold 41 = .ok (.getfield 76, 3) := by decide +kernel
theorem dX4_hold_44 : decode cX4_hold 44 = .ok (.iload 4, 2) := by decide +kernel
theorem dX4_hold_46 : decode cX4_hold 46 = .ok (.iload_n 3, 1) := by decide +kernel
theorem dX4_hold_47 : decode cX4_hold 47 = .ok (.bastore, 1) := by decide +kernel
theorem dX4_hold_48 : decode cX4_hold 48 = .ok (.iconst 1, 1) := by decide +kernel
theorem dX4_hold_49 : decode cX4_hold 49 = .ok (.ireturn, 1) := by decide +kernel
theorem dX4_setting_0 : decode cX4_setting 0 = .ok (.iload_n 1, 1) := by decide +kernel
theorem dX4_setting_1 : decode cX4_setting 1 = .ok (.ifCond .lt 29, 3) := by decide +kernel
theorem dX4_setting_4 : decode cX4_setting 4 = .ok (.iload_n 1, 1) := by decide +kernel
theorem dX4_setting_5 : decode cX4_setting 5 = .ok (.aload_n 0, 1) := by decide +kernel
theorem dX4_setting_6 : decode cX4_setting 6 = .ok (.getfield 48, 3) := by decide +kernel
theorem dX4_setting_9 : decode cX4_setting 9 = .ok (.arraylength, 1) := by decide +kernel
theorem dX4_setting_10 : decode cX4_setting 10 = .ok (.if_icmp .ge 20, 3) := by decide +kernel
theorem dX4_setting_13 : decode cX4_setting 13 = .ok (.iload_n 2, 1) := by decide +kernel
theorem dX4_setting_14 : decode cX4_setting 14 = .ok (.getstatic 80, 3) := by decide +kernel
theorem dX4_setting_17 : decode cX4_setting 17 = .ok (.iload_n 1, 1) := by decide +kernel
theorem dX4_setting_18 : decode cX4_setting 18 = .ok (.iaload, 1) := by decide +kernel
theorem dX4_setting_19 : decode cX4_setting 19 = .ok (.getstatic 83, 3) := by decide +kernel
theorem dX4_setting_22 : decode cX4_setting 22 = .ok (.iload_n 1, 1) := by decide +kernel
theorem dX4_setting_23 : decode cX4_setting 23 = .ok (.iaload, 1) := by decide +kernel
theorem dX4_setting_24 : decode cX4_setting 24 = .ok (.invokestatic 61, 3) := by decide +kernel
theorem dX4_setting_27 : decode cX4_setting 27 = .ok (.ifCond .eq 6, 3) := by decide +kernel
theorem dX4_setting_30 : decode cX4_setting 30 = .ok (.bipush (-2), 2) := by decide +kernel
theorem dX4_setting_32 : decode cX4_setting 32 = .ok (.ireturn, 1) := by decide +kernel
theorem dX4_setting_33 : decode cX4_setting 33 = .ok (.aload_n 0, 1) := by decide +kernel
theorem dX4_setting_34 : decode cX4_setting 34 = .ok (.getfield 48, 3) := by decide +kernel
theorem dX4_setting_37 : decode cX4_setting 37 = .ok (.iload_n 1, 1) := by decide +kernel
theorem dX4_setting_38 : decode cX4_setting 38 = .ok (.iaload, 1) := by decide +kernel
theorem dX4_setting_39 : decode cX4_setting 39 = .ok (.istore_n 3, 1) := by decide +kernel
theorem dX4_setting_40 : decode cX4_setting 40 = .ok (.aload_n 0, 1) := by decide +kernel
theorem dX4_setting_41 : decode cX4_setting 41 = .ok (.getfield 48, 3) := by decide +kernel
theorem dX4_setting_44 : decode cX4_setting 44 = .ok (.iload_n 1, 1) := by decide +kernel
theorem dX4_setting_45 : decode cX4_setting 45 = .ok (.iload_n 2, 1) := by decide +kernel
theorem dX4_setting_46 : decode cX4_setting 46 = .ok (.iastore, 1) := by decide +kernel
theorem dX4_setting_47 : decode cX4_setting 47 = .ok (.iload_n 3, 1) := by decide +kernel
theorem dX4_setting_48 : decode cX4_setting 48 = .ok (.ireturn, 1) := by decide +kernel
theorem dX4_ofPoint_0 : decode cX4_ofPoint 0 = .ok (.aload_n 0, 1) := by decide +kernel
theorem dX4_ofPoint_1 : decode cX4_ofPoint 1 = .ok (.getfield 14, 3) := by decide +kernel
theorem dX4_ofPoint_4 : decode cX4_ofPoint 4 = .ok (.iload_n 1, 1) := by decide +kernel
theorem dX4_ofPoint_5 : decode cX4_ofPoint 5 = .ok (.iload_n 2, 1) := by decide +kernel
theorem dX4_ofPoint_6 : decode cX4_ofPoint 6 = .ok (.invokevirtual 65, 3) := by decide +kernel
theorem dX4_ofPoint_9 : decode cX4_ofPoint 9 = .ok (.ifCond .ne 5, 3) := by decide +kernel
theorem dX4_ofPoint_12 : decode cX4_ofPoint 12 = .ok (.iconst (-1), 1) := by decide +kernel
theorem dX4_ofPoint_13 : decode cX4_ofPoint 13 = .ok (.ireturn, 1) := by decide +kernel
theorem dX4_ofPoint_14 : decode cX4_ofPoint 14 = .ok (.iload_n 1, 1) := by decide +kernel
theorem dX4_ofPoint_15 : decode cX4_ofPoint 15 = .ok (.iload_n 2, 1) := by decide +kernel
theorem dX4_ofPoint_16 : decode cX4_ofPoint 16 = .ok (.invokestatic 69, 3) := by decide +kernel
theorem dX4_ofPoint_19 : decode cX4_ofPoint 19 = .ok (.istore 4, 2) := by decide +kernel
theorem dX4_ofPoint_21 : decode cX4_ofPoint 21 = .ok (.iload_n 3, 1) := by decide +kernel
theorem dX4_ofPoint_22 : decode cX4_ofPoint 22 = .ok (.tableswitch 66 0 2 #[26, 37, 56], 26) := by decide +kernel
theorem dX4_ofPoint_48 : decode cX4_ofPoint 48 = .ok (.aload_n 0, 1) := by decide +kernel
theorem dX4_ofPoint_49 : decode cX4_ofPoint 49 = .ok (.getfield 14, 3) := by decide +kernel
theorem dX4_ofPoint_52 : decode cX4_ofPoint 52 = .ok (.getfield 86, 3) := by decide +kernel
theorem dX4_ofPoint_55 : decode cX4_ofPoint 55 = .ok (.iload 4, 2) := by decide +kernel
theorem dX4_ofPoint_57 : decode cX4_ofPoint 57 = .ok (.iaload, 1) := by decide +kernel
theorem dX4_ofPoint_58 : decode cX4_ofPoint 58 = .ok (.ireturn, 1) := by decide +kernel
theorem dX4_ofPoint_59 : decode cX4_ofPoint 59 = .ok (.aload_n 0, 1) := by decide +kernel
theorem dX4_ofPoint_60 : decode cX4_ofPoint 60 = .ok (.getfield 14, 3) := by decide +kernel
theorem dX4_ofPoint_63 : decode cX4_ofPoint 63 = .ok (.getfield 76, 3) := by decide +kernel
theorem dX4_ofPoint_66 : decode cX4_ofPoint 66 = .ok (.iload 4, 2) := by decide +kernel
theorem dX4_ofPoint_68 : decode cX4_ofPoint 68 = .ok (.baload, 1) := by decide +kernel
theorem dX4_ofPoint_69 : decode cX4_ofPoint 69 = .ok (.ifCond .eq 7, 3) := by decide +kernel
theorem dX4_ofPoint_72 : decode cX4_ofPoint 72 = .ok (.iconst 1, 1) := by decide +kernel
theorem dX4_ofPoint_73 : decode cX4_ofPoint 73 = .ok (.goto 4, 3) := by decide +kernel
theorem dX4_ofPoint_76 : decode cX4_ofPoint 76 = .ok (.iconst 0, 1) := by decide +kernel
theorem dX4_ofPoint_77 : decode cX4_ofPoint 77 = .ok (.ireturn, 1) := by decide +kernel
theorem dX4_ofPoint_78 : decode cX4_ofPoint 78 = .ok (.aload_n 0, 1) := by decide +kernel
theorem dX4_ofPoint_79 : decode cX4_ofPoint 79 = .ok (.getfield 14, 3) := by decide +kernel
theorem dX4_ofPoint_82 : decode cX4_ofPoint 82 = .ok (.iload 4, 2) := by decide +kernel
theorem dX4_ofPoint_84 : decode cX4_ofPoint 84 = .ok (.invokevirtual 89, 3) := by decide +kernel
theorem dX4_ofPoint_87 : decode cX4_ofPoint 87 = .ok (.ireturn, 1) := by decide +kernel
theorem dX4_ofPoint_88 : decode cX4_ofPoint 88 = .ok (.bipush (-2), 2) := by decide +kernel
theorem dX4_ofPoint_90 : decode cX4_ofPoint 90 = .ok (.ireturn, 1) := by decide +kernel
theorem dX4_bend_0 : decode cX4_bend 0 = .ok (.aload_n 0, 1) := by decide +kernel
theorem dX4_bend_1 : decode cX4_bend 1 = .ok (.iload_n 1, 1) := by decide +kernel
theorem dX4_bend_2 : decode cX4_bend 2 = .ok (.iload_n 2, 1) := by decide +kernel
theorem dX4_bend_3 : decode cX4_bend 3 = .ok (.invokevirtual 93, 3) := by decide +kernel
theorem dX4_bend_6 : decode cX4_bend 6 = .ok (.istore 4, 2) := by decide +kernel
theorem dX4_bend_8 : decode cX4_bend 8 = .ok (.iload 4, 2) := by decide +kernel
theorem dX4_bend_10 : decode cX4_bend 10 = .ok (.ifCond .eq 6, 3) := by decide +kernel
theorem dX4_bend_13 : decode cX4_bend 13 = .ok (.iload 4, 2) := by decide +kernel
theorem dX4_bend_15 : decode cX4_bend 15 = .ok (.ireturn, 1) := by decide +kernel
theorem dX4_bend_16 : decode cX4_bend 16 = .ok (.aload_n 0, 1) := by decide +kernel
theorem dX4_bend_17 : decode cX4_bend 17 = .ok (.iload_n 1, 1) := by decide +kernel
theorem dX4_bend_18 : decode cX4_bend 18 = .ok (.iload_n 2, 1) := by decide +kernel
theorem dX4_bend_19 : decode cX4_bend 19 = .ok (.invokevirtual 96, 3) := by decide +kernel
theorem dX4_bend_22 : decode cX4_bend 22 = .ok (.iload_n 3, 1) := by decide +kernel
theorem dX4_bend_23 : decode cX4_bend 23 = .ok (.iconst 1, 1) := by decide +kernel
theorem dX4_bend_24 : decode cX4_bend 24 = .ok (.aload_n 0, 1) := by decide +kernel
theorem dX4_bend_25 : decode cX4_bend 25 = .ok (.getfield 21, 3) := by decide +kernel
theorem dX4_bend_28 : decode cX4_bend 28 = .ok (.getfield 99, 3) := by decide +kernel
theorem dX4_bend_31 : decode cX4_bend 31 = .ok (.iconst 2, 1) := by decide +kernel
theorem dX4_bend_32 : decode cX4_bend 32 = .ok (.isub, 1) := by decide +kernel
theorem dX4_bend_33 : decode cX4_bend 33 = .ok (.invokestatic 61, 3) := by decide +kernel
theorem dX4_bend_36 : decode cX4_bend 36 = .ok (.ifCond .eq 8, 3) := by decide +kernel
theorem dX4_bend_39 : decode cX4_bend 39 = .ok (.bipush (-2), 2) := by decide +kernel
theorem dX4_bend_41 : decode cX4_bend 41 = .ok (.goto 11, 3) := by decide +kernel
theorem dX4_bend_44 : decode cX4_bend 44 = .ok (.aload_n 0, 1) := by decide +kernel
theorem dX4_bend_45 : decode cX4_bend 45 = .ok (.getfield 21, 3) := by decide +kernel
theorem dX4_bend_48 : decode cX4_bend 48 = .ok (.iload_n 3, 1) := by decide +kernel
theorem dX4_bend_49 : decode cX4_bend 49 = .ok (.invokevirtual 103, 3) := by decide +kernel
theorem dX4_bend_52 : decode cX4_bend 52 = .ok (.ireturn, 1) := by decide +kernel
theorem dX4_jump_0 : decode cX4_jump 0 = .ok (.aload_n 0, 1) := by decide +kernel
theorem dX4_jump_1 : decode cX4_jump 1 = .ok (.iload_n 1, 1) := by decide +kernel
theorem dX4_jump_2 : decode cX4_jump 2 = .ok (.iload_n 2, 1) := by decide +kernel
theorem dX4_jump_3 : decode cX4_jump 3 = .ok (.invokevirtual 93, 3) := by decide +kernel
theorem dX4_jump_6 : decode cX4_jump 6 = .ok (.istore 4, 2) := by decide +kernel
theorem dX4_jump_8 : decode cX4_jump 8 = .ok (.iload 4, 2) := by decide +kernel
theorem dX4_jump_10 : decode cX4_jump 10 = .ok (.ifCond .eq 6, 3) := by decide +kernel
theorem dX4_jump_13 : decode cX4_jump 13 = .ok (.iload 4, 2) := by decide +kernel
theorem dX4_jump_15 : decode cX4_jump 15 = .ok (.ireturn, 1) := by decide +kernel
theorem dX4_jump_16 : decode cX4_jump 16 = .ok (.aload_n 0, 1) := by decide +kernel
theorem dX4_jump_17 : decode cX4_jump 17 = .ok (.iload_n 1, 1) := by decide +kernel
theorem dX4_jump_18 : decode cX4_jump 18 = .ok (.iload_n 2, 1) := by decide +kernel
theorem dX4_jump_19 : decode cX4_jump 19 = .ok (.invokevirtual 96, 3) := by decide +kernel
theorem dX4_jump_22 : decode cX4_jump 22 = .ok (.iload_n 3, 1) := by decide +kernel
theorem dX4_jump_23 : decode cX4_jump 23 = .ok (.iconst 1, 1) := by decide +kernel
theorem dX4_jump_24 : decode cX4_jump 24 = .ok (.aload_n 0, 1) := by decide +kernel
theorem dX4_jump_25 : decode cX4_jump 25 = .ok (.getfield 21, 3) := by decide +kernel
theorem dX4_jump_28 : decode cX4_jump 28 = .ok (.getfield 99, 3) := by decide +kernel
theorem dX4_jump_31 : decode cX4_jump 31 = .ok (.iconst 3, 1) := by decide +kernel
theorem dX4_jump_32 : decode cX4_jump 32 = .ok (.isub, 1) := by decide +kernel
theorem dX4_jump_33 : decode cX4_jump 33 = .ok (.invokestatic 61, 3) := by decide +kernel
theorem dX4_jump_36 : decode cX4_jump 36 = .ok (.ifCond .eq 8, 3) := by decide +kernel
theorem dX4_jump_39 : decode cX4_jump 39 = .ok (.bipush (-2), 2) := by decide +kernel
theorem dX4_jump_41 : decode cX4_jump 41 = .ok (.goto 11, 3) := by decide +kernel
theorem dX4_jump_44 : decode cX4_jump 44 = .ok (.aload_n 0, 1) := by decide +kernel
theorem dX4_jump_45 : decode cX4_jump 45 = .ok (.getfield 21, 3) := by decide +kernel
theorem dX4_jump_48 : decode cX4_jump 48 = .ok (.iload_n 3, 1) := by decide +kernel
theorem dX4_jump_49 : decode cX4_jump 49 = .ok (.invokevirtual 106, 3) := by decide +kernel
theorem dX4_jump_52 : decode cX4_jump 52 = .ok (.ireturn, 1) := by decide +kernel
theorem dX4_roughest_0 : decode cX4_roughest 0 = .ok (.iload_n 1, 1) := by decide +kernel
theorem dX4_roughest_1 : decode cX4_roughest 1 = .ok (.iconst 0, 1) := by decide +kernel
theorem dX4_roughest_2 : decode cX4_roughest 2 = .ok (.iconst 3, 1) := by decide +kernel
theorem dX4_roughest_3 : decode cX4_roughest 3 = .ok (.invokestatic 61, 3) := by decide +kernel
theorem dX4_roughest_6 : decode cX4_roughest 6 = .ok (.ifCond .eq 6, 3) := by decide +kernel
theorem dX4_roughest_9 : decode cX4_roughest 9 = .ok (.bipush (-2), 2) := by decide +kernel
theorem dX4_roughest_11 : decode cX4_roughest 11 = .ok (.ireturn, 1) := by decide +kernel
theorem dX4_roughest_12 : decode cX4_roughest 12 = .ok (.iconst 0, 1) := by decide +kernel
theorem dX4_roughest_13 : decode cX4_roughest 13 = .ok (.istore_n 2, 1) := by decide +kernel
theorem dX4_roughest_14 : decode cX4_roughest 14 = .ok (.iconst 0, 1) := by decide +kernel
theorem dX4_roughest_15 : decode cX4_roughest 15 = .ok (.istore_n 3, 1) := by decide +kernel
theorem dX4_roughest_16 : decode cX4_roughest 16 = .ok (.iconst 0, 1) := by decide +kernel
theorem dX4_roughest_17 : decode cX4_roughest 17 = .ok (.istore 4, 2) := by decide +kernel
theorem dX4_roughest_19 : decode cX4_roughest 19 = .ok (.iconst 0, 1) := by decide +kernel
theorem dX4_roughest_20 : decode cX4_roughest 20 = .ok (.istore 5, 2) := by decide +kernel
theorem dX4_roughest_22 : decode cX4_roughest 22 = .ok (.iload 5, 2) := by decide +kernel
theorem dX4_roughest_24 : decode cX4_roughest 24 = .ok (.iconst 2, 1) := by decide +kernel
theorem dX4_roughest_25 : decode cX4_roughest 25 = .ok (.if_icmp .ge 66, 3) := by decide +kernel
theorem dX4_roughest_28 : decode cX4_roughest 28 = .ok (.iconst 0, 1) := by decide +kernel
theorem dX4_roughest_29 : decode cX4_roughest 29 = .ok (.istore 6, 2) := by decide +kernel
theorem dX4_roughest_31 : decode cX4_roughest 31 = .ok (.iload 6, 2) := by decide +kernel
theorem dX4_roughest_33 : decode cX4_roughest 33 = .ok (.aload_n 0, 1) := by decide +kernel
theorem dX4_roughest_34 : decode cX4_roughest 34 = .ok (.getfield 14, 3) := by decide +kernel
theorem dX4_roughest_37 : decode cX4_roughest 37 = .ok (.iload 5, 2) := by decide +kernel
theorem dX4_roughest_39 : decode cX4_roughest 39 = .ok (.invokevirtual 109, 3) := by decide +kernel
theorem dX4_roughest_42 : decode cX4_roughest 42 = .ok (.if_icmp .ge 43, 3) := by decide +kernel
theorem dX4_roughest_45 : decode cX4_roughest 45 = .ok (.aload_n 0, 1) := by decide +kernel
theorem dX4_roughest_46 : decode cX4_roughest 46 = .ok (.iload 5, 2) := by decide +kernel
theorem dX4_roughest_48 : decode cX4_roughest 48 = .ok (.iload 6, 2) := by decide +kernel
theorem dX4_roughest_50 : decode cX4_roughest 50 = .ok (.invokevirtual 96, 3) := by decide +kernel
theorem dX4_roughest_53 : decode cX4_roughest 53 = .ok (.aload_n 0, 1) := by decide +kernel
theorem dX4_roughest_54 : decode cX4_roughest 54 = .ok (.getfield 21, 3) := by decide +kernel
theorem dX4_roughest_57 : decode cX4_roughest 57 = .ok (.invokevirtual 112, 3) := by decide +kernel
theorem dX4_roughest_60 : decode cX4_roughest 60 = .ok (.iload_n 2, 1) := by decide +kernel
theorem dX4_roughest_61 : decode cX4_roughest 61 = .ok (.if_icmp .le 18, 3) := by decide +kernel
theorem dX4_roughest_64 : decode cX4_roughest 64 = .ok (.aload_n 0, 1) := by decide +kernel
theorem dX4_roughest_65 : decode cX4_roughest 65 = .ok (.getfield 21, 3) := by decide +kernel
theorem dX4_roughest_68 : decode cX4_roughest 68 = .ok (.invokevirtual 112, 3) := by decide +kernel
theorem dX4_roughest_71 : decode cX4_roughest 71 = .ok (.istore_n 2, 1) := by decide +kernel
theorem dX4_roughest_72 : decode cX4_roughest 72 = .ok (.iload 5, 2) := by decide +kernel
theorem dX4_roughest_74 : decode cX4_roughest 74 = .ok (.istore_n 3, 1) := by decide +kernel
theorem dX4_roughest_75 : decode cX4_roughest 75 = .ok (.iload 6, 2) := by decide +kernel
theorem dX4_roughest_77 : decode cX4_roughest 77 = .ok (.istore 4, 2) := by decide +kernel
theorem dX4_roughest_79 : decode cX4_roughest 79 = .ok (.iinc 6 1, 3) := by decide +kernel
theorem dX4_roughest_82 : decode cX4_roughest 82 = .ok (.goto (-51), 3) := by decide +kernel
theorem dX4_roughest_85 : decode cX4_roughest 85 = .ok (.iinc 5 1, 3) := by decide +kernel
theorem dX4_roughest_88 : decode cX4_roughest 88 = .ok (.goto (-66), 3) := by decide +kernel
theorem dX4_roughest_91 : decode cX4_roughest 91 = .ok (.iload_n 1, 1) := by decide +kernel
theorem dX4_roughest_92 : decode cX4_roughest 92 = .ok (.tableswitch 35 0 2 #[28, 30, 32], 28) := by decide +kernel
theorem dX4_roughest_120 : decode cX4_roughest 120 = .ok (.iload_n 2, 1) := by decide +kernel
theorem dX4_roughest_121 : decode cX4_roughest 121 = .ok (.ireturn, 1) := by decide +kernel
theorem dX4_roughest_122 : decode cX4_roughest 122 = .ok (.iload_n 3, 1) := by decide +kernel
theorem dX4_roughest_123 : decode cX4_roughest 123 = .ok (.ireturn, 1) := by decide +kernel
theorem dX4_roughest_124 : decode cX4_roughest 124 = .ok (.iload 4, 2) := by decide +kernel
theorem dX4_roughest_126 : decode cX4_roughest 126 = .ok (.ireturn, 1) := by decide +kernel
theorem dX4_roughest_127 : decode cX4_roughest 127 = .ok (.aload_n 0, 1) := by decide +kernel
theorem dX4_roughest_128 : decode cX4_roughest 128 = .ok (.iload_n 3, 1) := by decide +kernel
theorem dX4_roughest_129 : decode cX4_roughest 129 = .ok (.iload 4, 2) := by decide +kernel
theorem dX4_roughest_131 : decode cX4_roughest 131 = .ok (.invokevirtual 96, 3) := by decide +kernel
theorem dX4_roughest_134 : decode cX4_roughest 134 = .ok (.aload_n 0, 1) := by decide +kernel
theorem dX4_roughest_135 : decode cX4_roughest 135 = .ok (.getfield 21, 3) := by decide +kernel
theorem dX4_roughest_138 : decode cX4_roughest 138 = .ok (.iload_n 2, 1) := by decide +kernel
theorem dX4_roughest_139 : decode cX4_roughest 139 = .ok (.invokevirtual 116, 3) := by decide +kernel
theorem dX4_roughest_142 : decode cX4_roughest 142 = .ok (.ireturn, 1) := by decide +kernel
theorem dX4_rough_0 : decode cX4_rough 0 = .ok (.aload_n 0, 1) := by decide +kernel
theorem dX4_rough_1 : decode cX4_rough 1 = .ok (.iload_n 1, 1) := by decide +kernel
theorem dX4_rough_2 : decode cX4_rough 2 = .ok (.iload_n 2, 1) := by decide +kernel
theorem dX4_rough_3 : decode cX4_rough 3 = .ok (.invokevirtual 93, 3) := by decide +kernel
theorem dX4_rough_6 : decode cX4_rough 6 = .ok (.istore_n 3, 1) := by decide +kernel
theorem dX4_rough_7 : decode cX4_rough 7 = .ok (.iload_n 3, 1) := by decide +kernel
theorem dX4_rough_8 : decode cX4_rough 8 = .ok (.ifCond .eq 5, 3) := by decide +kernel
theorem dX4_rough_11 : decode cX4_rough 11 = .ok (.iload_n 3, 1) := by decide +kernel
theorem dX4_rough_12 : decode cX4_rough 12 = .ok (.ireturn, 1) := by decide +kernel
theorem dX4_rough_13 : decode cX4_rough 13 = .ok (.aload_n 0, 1) := by decide +kernel
theorem dX4_rough_14 : decode cX4_rough 14 = .ok (.iload_n 1, 1) := by decide +kernel
theorem dX4_rough_15 : decode cX4_rough 15 = .ok (.iload_n 2, 1) := by decide +kernel
theorem dX4_rough_16 : decode cX4_rough 16 = .ok (.invokevirtual 96, 3) := by decide +kernel
theorem dX4_rough_19 : decode cX4_rough 19 = .ok (.aload_n 0, 1) := by decide +kernel
theorem dX4_rough_20 : decode cX4_rough 20 = .ok (.getfield 21, 3) := by decide +kernel
theorem dX4_rough_23 : decode cX4_rough 23 = .ok (.aload_n 0, 1) := by decide +kernel
theorem dX4_rough_24 : decode cX4_rough 24 = .ok (.getfield 48, 3) := by decide +kernel
theorem dX4_rough_27 : decode cX4_rough 27 = .ok (.iconst 0, 1) := by decide +kernel
theorem dX4_rough_28 : decode cX4_rough 28 = .ok (.iaload, 1) := by decide +kernel
theorem dX4_rough_29 : decode cX4_rough 29 = .ok (.invokevirtual 119, 3) := by decide +kernel
theorem dX4_rough_32 : decode cX4_rough 32 = .ok (.ireturn, 1) := by decide +kernel
theorem dX4_least_0 : decode cX4_least 0 = .ok (.aload_n 0, 1) := by decide +kernel
theorem dX4_least_1 : decode cX4_least 1 = .ok (.iload_n 1, 1) := by decide +kernel
theorem dX4_least_2 : decode cX4_least 2 = .ok (.iload_n 2, 1) := by decide +kernel
theorem dX4_least_3 : decode cX4_least 3 = .ok (.invokevirtual 93, 3) := by decide +kernel
theorem dX4_least_6 : decode cX4_least 6 = .ok (.istore 4, 2) := by decide +kernel
theorem dX4_least_8 : decode cX4_least 8 = .ok (.iload 4, 2) := by decide +kernel
theorem dX4_least_10 : decode cX4_least 10 = .ok (.ifCond .eq 6, 3) := by decide +kernel
theorem dX4_least_13 : decode cX4_least 13 = .ok (.iload 4, 2) := by decide +kernel
theorem dX4_least_15 : decode cX4_least 15 = .ok (.ireturn, 1) := by decide +kernel
theorem dX4_least_16 : decode cX4_least 16 = .ok (.iload_n 3, 1) := by decide +kernel
theorem dX4_least_17 : decode cX4_least 17 = .ok (.iconst (-1), 1) := by decide +kernel
theorem dX4_least_18 : decode cX4_least 18 = .ok (.aload_n 0, 1) := by decide +kernel
theorem dX4_least_19 : decode cX4_least 19 = .ok (.getfield 14, 3) := by decide +kernel
theorem dX4_least_22 : decode cX4_least 22 = .ok (.iload_n 1, 1) := by decide +kernel
theorem dX4_least_23 : decode cX4_least 23 = .ok (.invokevirtual 122, 3) := by decide +kernel
theorem dX4_least_26 : decode cX4_least 26 = .ok (.iconst 1, 1) := by decide +kernel
theorem dX4_least_27 : decode cX4_least 27 = .ok (.isub, 1) := by decide +kernel
theorem dX4_least_28 : decode cX4_least 28 = .ok (.invokestatic 61, 3) := by decide +kernel
theorem dX4_least_31 : decode cX4_least 31 = .ok (.ifCond .eq 6, 3) := by decide +kernel
theorem dX4_least_34 : decode cX4_least 34 = .ok (.bipush (-2), 2) := by decide +kernel
theorem dX4_least_36 : decode cX4_least 36 = .ok (.ireturn, 1) := by decide +kernel
theorem dX4_least_37 : decode cX4_least 37 = .ok (.aload_n 0, 1) := by decide +kernel
theorem dX4_least_38 : decode cX4_least 38 = .ok (.iload_n 1, 1) := by decide +kernel
theorem dX4_least_39 : decode cX4_least 39 = .ok (.iload_n 2, 1) := by decide +kernel
theorem dX4_least_40 : decode cX4_least 40 = .ok (.invokevirtual 125, 3) := by decide +kernel
theorem dX4_least_43 : decode cX4_least 43 = .ok (.istore 5, 2) := by decide +kernel
theorem dX4_least_45 : decode cX4_least 45 = .ok (.iload 5, 2) := by decide +kernel
theorem dX4_least_47 : decode cX4_least 47 = .ok (.bipush (-9), 2) := by decide +kernel
theorem dX4_least_49 : decode cX4_least 49 = .ok (.if_icmp .eq 7, 3) := by decide +kernel
theorem dX4_least_52 : decode cX4_least 52 = .ok (.iload_n 3, 1) := by decide +kernel
theorem dX4_least_53 : decode cX4_least 53 = .ok (.ifCond .ge 8, 3) := by decide +kernel
theorem dX4_least_56 : decode cX4_least 56 = .ok (.iload 5, 2) := by decide +kernel
theorem dX4_least_58 : decode cX4_least 58 = .ok (.goto 11, 3) := by decide +kernel
theorem dX4_least_61 : decode cX4_least 61 = .ok (.aload_n 0, 1) := by decide +kernel
theorem dX4_least_62 : decode cX4_least 62 = .ok (.getfield 28, 3) := by decide +kernel
theorem dX4_least_65 : decode cX4_least 65 = .ok (.iload_n 3, 1) := by decide +kernel
theorem dX4_least_66 : decode cX4_least 66 = .ok (.invokevirtual 128, 3) := by decide +kernel
theorem dX4_least_69 : decode cX4_least 69 = .ok (.ireturn, 1) := by decide +kernel
theorem dX4_fair_0 : decode cX4_fair 0 = .ok (.aload_n 0, 1) := by decide +kernel
theorem dX4_fair_1 : decode cX4_fair 1 = .ok (.iload_n 1, 1) := by decide +kernel
theorem dX4_fair_2 : decode cX4_fair 2 = .ok (.iload_n 2, 1) := by decide +kernel
theorem dX4_fair_3 : decode cX4_fair 3 = .ok (.invokevirtual 93, 3) := by decide +kernel
theorem dX4_fair_6 : decode cX4_fair 6 = .ok (.istore_n 3, 1) := by decide +kernel
theorem dX4_fair_7 : decode cX4_fair 7 = .ok (.iload_n 3, 1) := by decide +kernel
theorem dX4_fair_8 : decode cX4_fair 8 = .ok (.ifCond .eq 5, 3) := by decide +kernel
theorem dX4_fair_11 : decode cX4_fair 11 = .ok (.iload_n 3, 1) := by decide +kernel
theorem dX4_fair_12 : decode cX4_fair 12 = .ok (.ireturn, 1) := by decide +kernel
theorem dX4_fair_13 : decode cX4_fair 13 = .ok (.aload_n 0, 1) := by decide +kernel
theorem dX4_fair_14 : decode cX4_fair 14 = .ok (.iload_n 1, 1) := by decide +kernel
theorem dX4_fair_15 : decode cX4_fair 15 = .ok (.iload_n 2, 1) := by decide +kernel
theorem dX4_fair_16 : decode cX4_fair 16 = .ok (.invokevirtual 125, 3) := by decide +kernel
theorem dX4_fair_19 : decode cX4_fair 19 = .ok (.istore 4, 2) := by decide +kernel
theorem dX4_fair_21 : decode cX4_fair 21 = .ok (.iload 4, 2) := by decide +kernel
theorem dX4_fair_23 : decode cX4_fair 23 = .ok (.bipush (-9), 2) := by decide +kernel
theorem dX4_fair_25 : decode cX4_fair 25 = .ok (.if_icmp .ne 6, 3) := by decide +kernel
theorem dX4_fair_28 : decode cX4_fair 28 = .ok (.bipush (-3), 2) := by decide +kernel
theorem dX4_fair_30 : decode cX4_fair 30 = .ok (.ireturn, 1) := by decide +kernel
theorem dX4_fair_31 : decode cX4_fair 31 = .ok (.aload_n 0, 1) := by decide +kernel
theorem dX4_fair_32 : decode cX4_fair 32 = .ok (.iload_n 1, 1) := by decide +kernel
theorem dX4_fair_33 : decode cX4_fair 33 = .ok (.iload_n 2, 1) := by decide +kernel
theorem dX4_fair_34 : decode cX4_fair 34 = .ok (.invokevirtual 131, 3) := by decide +kernel
theorem dX4_fair_37 : decode cX4_fair 37 = .ok (.iload 4, 2) := by decide +kernel
theorem dX4_fair_39 : decode cX4_fair 39 = .ok (.ireturn, 1) := by decide +kernel
theorem dX4_rounds_0 : decode cX4_rounds 0 = .ok (.iload_n 1, 1) := by decide +kernel
theorem dX4_rounds_1 : decode cX4_rounds 1 = .ok (.iconst 1, 1) := by decide +kernel
theorem dX4_rounds_2 : decode cX4_rounds 2 = .ok (.bipush 20, 2) := by decide +kernel
theorem dX4_rounds_4 : decode cX4_rounds 4 = .ok (.invokestatic 61, 3) := by decide +kernel
theorem dX4_rounds_7 : decode cX4_rounds 7 = .ok (.ifCond .eq 6, 3) := by decide +kernel
theorem dX4_rounds_10 : decode cX4_rounds 10 = .ok (.bipush (-2), 2) := by decide +kernel
theorem dX4_rounds_12 : decode cX4_rounds 12 = .ok (.ireturn, 1) := by decide +kernel
theorem dX4_rounds_13 : decode cX4_rounds 13 = .ok (.iconst 1, 1) := by decide +kernel
theorem dX4_rounds_14 : decode cX4_rounds 14 = .ok (.istore_n 2, 1) := by decide +kernel
theorem dX4_rounds_15 : decode cX4_rounds 15 = .ok (.iload_n 2, 1) := by decide +kernel
theorem dX4_rounds_16 : decode cX4_rounds 16 = .ok (.iload_n 1, 1) := by decide +kernel
theorem dX4_rounds_17 : decode cX4_rounds 17 = .ok (.if_icmp .ge 18, 3) := by decide +kernel
theorem dX4_rounds_20 : decode cX4_rounds 20 = .ok (.aload_n 0, 1) := by decide +kernel
theorem dX4_rounds_21 : decode cX4_rounds 21 = .ok (.invokevirtual 134, 3) := by decide +kernel
theorem dX4_rounds_24 : decode cX4_rounds 24 = .ok (.ifCond .ne 5, 3) := by decide +kernel
theorem dX4_rounds_27 : decode cX4_rounds 27 = .ok (.iload_n 2, 1) := by decide +kernel
theorem dX4_rounds_28 : decode cX4_rounds 28 = .ok (.ireturn, 1) := by decide +kernel
theorem dX4_rounds_29 : decode cX4_rounds 29 = .ok (.iinc 2 1, 3) := by decide +kernel
theorem dX4_rounds_32 : decode cX4_rounds 32 = .ok (.goto (-17), 3) := by decide +kernel
theorem dX4_rounds_35 : decode cX4_rounds 35 = .ok (.aload_n 0, 1) := by decide +kernel
theorem dX4_rounds_36 : decode cX4_rounds 36 = .ok (.invokevirtual 134, 3) := by decide +kernel
theorem dX4_rounds_39 : decode cX4_rounds 39 = .ok (.pop, 1) := by decide +kernel
theorem dX4_rounds_40 : decode cX4_rounds 40 = .ok (.iload_n 1, 1) := by decide +kernel
theorem dX4_rounds_41 : decode cX4_rounds 41 = .ok (.ireturn, 1) := by decide +kernel
theorem dX4_back_0 : decode cX4_back 0 = .ok (.iconst 0, 1) := by decide +kernel
theorem dX4_back_1 : decode cX4_back 1 = .ok (.istore_n 1, 1) := by decide +kernel
theorem dX4_back_2 : decode cX4_back 2 = .ok (.iconst 0, 1) := by decide +kernel
theorem dX4_back_3 : decode cX4_back 3 = .ok (.istore_n 2, 1) := by decide +kernel
theorem dX4_back_4 : decode cX4_back 4 = .ok (.iload_n 2, 1) := by decide +kernel
theorem dX4_back_5 : decode cX4_back 5 = .ok (.bipush 63, 2) := by decide +kernel
theorem dX4_back_7 : decode cX4_back 7 = .ok (.if_icmp .ge 41, 3) := by decide +kernel
theorem dX4_back_10 : decode cX4_back 10 = .ok (.aload_n 0, 1) := by decide +kernel
theorem dX4_back_11 : decode cX4_back 11 = .ok (.getfield 14, 3) := by decide +kernel
theorem dX4_back_14 : decode cX4_back 14 = .ok (.iload_n 2, 1) := by decide +kernel
theorem dX4_back_15 : decode cX4_back 15 = .ok (.invokevirtual 89, 3) := by decide +kernel
theorem dX4_back_18 : decode cX4_back 18 = .ok (.ifCond .eq 24, 3) := by decide +kernel
theorem dX4_back_21 : decode cX4_back 21 = .ok (.aload_n 0, 1) := by decide +kernel
theorem dX4_back_22 : decode cX4_back 22 = .ok (.getfield 14, 3) := by decide +kernel
theorem dX4_back_25 : decode cX4_back 25 = .ok (.getfield 86, 3) := by decide +kernel
theorem dX4_back_28 : decode cX4_back 28 = .ok (.iload_n 2, 1) := by decide +kernel
theorem dX4_back_29 : decode cX4_back 29 = .ok (.aload_n 0, 1) := by decide +kernel
theorem dX4_back_30 : decode cX4_back 30 = .ok (.getfield 14, 3) := by decide +kernel
theorem dX4_back_33 : decode cX4_back 33 = .ok (.getfield 138, 3) := by decide +kernel
theorem dX4_back_36 : decode cX4_back 36 = .ok (.iload_n 2, 1) := by decide +kernel
theorem dX4_back_37 : decode cX4_back 37 = .ok (.iaload, 1) := by decide +kernel
theorem dX4_back_38 : decode cX4_back 38 = .ok (.iastore, 1) := by decide +kernel
theorem dX4_back_39 : decode cX4_back 39 = .ok (.iinc 1 1, 3) := by decide +kernel
theorem dX4_back_42 : decode cX4_back 42 = .ok (.iinc 2 1, 3) := by decide +kernel
theorem dX4_back_45 : decode cX4_back 45 = .ok (.goto (-41), 3) := by decide +kernel
theorem dX4_back_48 : decode cX4_back 48 = .ok (.iload_n 1, 1) := by decide +kernel
theorem dX4_back_49 : decode cX4_back 49 = .ok (.ireturn, 1) := by decide +kernel
theorem dX4_area_0 : decode cX4_area 0 = .ok (.aload_n 0, 1) := by decide +kernel
theorem dX4_area_1 : decode cX4_area 1 = .ok (.iload_n 1, 1) := by decide +kernel
theorem dX4_area_2 : decode cX4_area 2 = .ok (.iload_n 2, 1) := by decide +kernel
theorem dX4_area_3 : decode cX4_area 3 = .ok (.invokevirtual 93, 3) := by decide +kernel
theorem dX4_area_6 : decode cX4_area 6 = .ok (.ifCond .ne 12, 3) := by decide +kernel
theorem dX4_area_9 : decode cX4_area 9 = .ok (.iload_n 3, 1) := by decide +kernel
theorem dX4_area_10 : decode cX4_area 10 = .ok (.iconst 0, 1) := by decide +kernel
theorem dX4_area_11 : decode cX4_area 11 = .ok (.iconst 1, 1) := by decide +kernel
theorem dX4_area_12 : decode cX4_area 12 = .ok (.invokestatic 61, 3) := by decide +kernel
theorem dX4_area_15 : decode cX4_area 15 = .ok (.ifCond .eq 7, 3) := by decide +kernel
theorem dX4_area_18 : decode cX4_area 18 = .ok (.ldc2_w 141, 3) := by decide +kernel
theorem dX4_area_21 : decode cX4_area 21 = .ok (.lreturn, 1) := by decide +kernel
theorem dX4_area_22 : decode cX4_area 22 = .ok (.aload_n 0, 1) := by decide +kernel
theorem dX4_area_23 : decode cX4_area 23 = .ok (.iload_n 1, 1) := by decide +kernel
theorem dX4_area_24 : decode cX4_area 24 = .ok (.iload_n 2, 1) := by decide +kernel
theorem dX4_area_25 : decode cX4_area 25 = .ok (.invokevirtual 143, 3) := by decide +kernel
theorem dX4_area_28 : decode cX4_area 28 = .ok (.i2l, 1) := by decide +kernel
theorem dX4_area_29 : decode cX4_area 29 = .ok (.ldc2_w 146, 3) := by decide +kernel
theorem dX4_area_32 : decode cX4_area 32 = .ok (.iload_n 3, 1) := by decide +kernel
theorem dX4_area_33 : decode cX4_area 33 = .ok (.invokestatic 148, 3) := by decide +kernel
theorem dX4_area_36 : decode cX4_area 36 = .ok (.lreturn, 1) := by decide +kernel
theorem dX4_centre_0 : decode cX4_centre 0 = .ok (.aload_n 0, 1) := by decide +kernel
theorem dX4_centre_1 : decode cX4_centre 1 = .ok (.iload_n 1, 1) := by decide +kernel
theorem dX4_centre_2 : decode cX4_centre 2 = .ok (.iload_n 2, 1) := by decide +kernel
theorem dX4_centre_3 : decode cX4_centre 3 = .ok (.invokevirtual 93, 3) := by decide +kernel
theorem dX4_centre_6 : decode cX4_centre 6 = .ok (.ifCond .ne 12, 3) := by decide +kernel
theorem dX4_centre_9 : decode cX4_centre 9 = .ok (.iload_n 3, 1) := by decide +kernel
theorem dX4_centre_10 : decode cX4_centre 10 = .ok (.iconst 0, 1) := by decide +kernel
theorem dX4_centre_11 : decode cX4_centre 11 = .ok (.iconst 1, 1) := by decide +kernel
theorem dX4_centre_12 : decode cX4_centre 12 = .ok (.invokestatic 61, 3) := by decide +kernel
theorem dX4_centre_15 : decode cX4_centre 15 = .ok (.ifCond .eq 7, 3) := by decide +kernel
theorem dX4_centre_18 : decode cX4_centre 18 = .ok (.ldc2_w 141, 3) := by decide +kernel
theorem dX4_centre_21 : decode cX4_centre 21 = .ok (.lreturn, 1) := by decide +kernel
theorem dX4_centre_22 : decode cX4_centre 22 = .ok (.aload_n 0, 1) := by decide +kernel
theorem dX4_centre_23 : decode cX4_centre 23 = .ok (.iload_n 1, 1) := by decide +kernel
theorem dX4_centre_24 : decode cX4_centre 24 = .ok (.iload_n 2, 1) := by decide +kernel
theorem dX4_centre_25 : decode cX4_centre 25 = .ok (.invokevirtual 96, 3) := by decide +kernel
theorem dX4_centre_28 : decode cX4_centre 28 = .ok (.aload_n 0, 1) := by decide +kernel
theorem dX4_centre_29 : decode cX4_centre 29 = .ok (.getfield 21, 3) := by decide +kernel
theorem dX4_centre_32 : decode cX4_centre 32 = .ok (.getfield 152, 3) := by decide +kernel
theorem dX4_centre_35 : decode cX4_centre 35 = .ok (.aload_n 0, 1) := by decide +kernel
theorem dX4_centre_36 : decode cX4_centre 36 = .ok (.getfield 21, 3) := by decide +kernel
theorem dX4_centre_39 : decode cX4_centre 39 = .ok (.getfield 99, 3) := by decide +kernel
theorem dX4_centre_42 : decode cX4_centre 42 = .ok (.invokestatic 153, 3) := by decide +kernel
theorem dX4_centre_45 : decode cX4_centre 45 = .ok (.istore 4, 2) := by decide +kernel
theorem dX4_centre_47 : decode cX4_centre 47 = .ok (.iload 4, 2) := by decide +kernel
theorem dX4_centre_49 : decode cX4_centre 49 = .ok (.ifCond .ne 7, 3) := by decide +kernel
theorem dX4_centre_52 : decode cX4_centre 52 = .ok (.ldc2_w 141, 3) := by decide +kernel
theorem dX4_centre_55 : decode cX4_centre 55 = .ok (.lreturn, 1) := by decide +kernel
theorem dX4_centre_56 : decode cX4_centre 56 = .ok (.iconst 0, 1) := by decide +kernel
theorem dX4_centre_57 : decode cX4_centre 57 = .ok (.istore 5, 2) := by decide +kernel
theorem dX4_centre_59 : decode cX4_centre 59 = .ok (.iload 5, 2) := by decide +kernel
theorem dX4_centre_61 : decode cX4_centre 61 = .ok (.aload_n 0, 1) := by decide +kernel
theorem dX4_centre_62 : decode cX4_centre 62 = .ok (.getfield 21, 3) := by decide +kernel
theorem dX4_centre_65 : decode cX4_centre 65 = .ok (.getfield 99, 3) := by decide +kernel
theorem dX4_centre_68 : decode cX4_centre 68 = .ok (.if_icmp .ge 29, 3) := by decide +kernel
theorem dX4_centre_71 : decode cX4_centre 71 = .ok (.aload_n 0, 1) := by decide +kernel
theorem dX4_centre_72 : decode cX4_centre 72 = .ok (.getfield 54, 3) := by decide +kernel
theorem dX4_centre_75 : decode cX4_centre 75 = .ok (.iload 5, 2) := by decide +kernel
theorem dX4_centre_77 : decode cX4_centre 77 = .ok (.aload_n 0, 1) := by decide +kernel
theorem dX4_centre_78 : decode cX4_centre 78 = .ok (.getfield 21, 3) := by decide +kernel
theorem dX4_centre_81 : decode cX4_centre 81 = .ok (.getfield 152, 3) := by decide +kernel
theorem dX4_centre_84 : decode cX4_centre 84 = .ok (.iload 5, 2) := by decide +kernel
theorem dX4_centre_86 : decode cX4_centre 86 = .ok (.iaload, 1) := by decide +kernel
theorem dX4_centre_87 : decode cX4_centre 87 = .ok (.iload 5, 2) := by decide +kernel
theorem dX4_centre_89 : decode cX4_centre 89 = .ok (.imul, 1) := by decide +kernel
theorem dX4_centre_90 : decode cX4_centre 90 = .ok (.iastore, 1) := by decide +kernel
theorem dX4_centre_91 : decode cX4_centre 91 = .ok (.iinc 5 1, 3) := by decide +kernel
theorem dX4_centre_94 : decode cX4_centre 94 = .ok (.goto (-35), 3) := by decide +kernel
theorem dX4_centre_97 : decode cX4_centre 97 = .ok (.aload_n 0, 1) := by decide +kernel
theorem dX4_centre_98 : decode cX4_centre 98 = .ok (.getfield 54, 3) := by decide +kernel
theorem dX4_centre_101 : decode cX4_centre 101 = .ok (.aload_n 0, 1) := by decide +kernel
theorem dX4_centre_102 : decode cX4_centre 102 = .ok (.getfield 21, 3) := by decide +kernel
theorem dX4_centre_105 : decode cX4_centre 105 = .ok (.getfield 99, 3) := by decide +kernel
theorem dX4_centre_108 : decode cX4_centre 108 = .ok (.invokestatic 153, 3) := by decide +kernel
theorem dX4_centre_111 : decode cX4_centre 111 = .ok (.i2l, 1) := by decide +kernel
theorem dX4_centre_112 : decode cX4_centre 112 = .ok (.iload 4, 2) := by decide +kernel
theorem dX4_centre_114 : decode cX4_centre 114 = .ok (.i2l, 1) := by decide +kernel
theorem dX4_centre_115 : decode cX4_centre 115 = .ok (.iload_n 3, 1) := by decide +kernel
theorem dX4_centre_116 : decode cX4_centre 116 = .ok (.invokestatic 148, 3) := by decide +kernel
theorem dX4_centre_119 : decode cX4_centre 119 = .ok (.lreturn, 1) := by decide +kernel
theorem dX4_volume_0 : decode cX4_volume 0 = .ok (.iload_n 1, 1) := by decide +kernel
theorem dX4_volume_1 : decode cX4_volume 1 = .ok (.iconst 0, 1) := by decide +kernel
theorem dX4_volume_2 : decode cX4_volume 2 = .ok (.iconst 1, 1) := by decide +kernel
theorem dX4_volume_3 : decode cX4_volume 3 = .ok (.invokestatic 61, 3) := by decide +kernel
theorem dX4_volume_6 : decode cX4_volume 6 = .ok (.ifCond .ne 12, 3) := by decide +kernel
theorem dX4_volume_9 : decode cX4_volume 9 = .ok (.iload_n 2, 1) := by decide +kernel
theorem dX4_volume_10 : decode cX4_volume 10 = .ok (.iconst 0, 1) := by decide +kernel
theorem dX4_volume_11 : decode cX4_volume 11 = .ok (.iconst 1, 1) := by decide +kernel
theorem dX4_volume_12 : decode cX4_volume 12 = .ok (.invokestatic 61, 3) := by decide +kernel
theorem dX4_volume_15 : decode cX4_volume 15 = .ok (.ifCond .eq 7, 3) := by decide +kernel
theorem dX4_volume_18 : decode cX4_volume 18 = .ok (.ldc2_w 141, 3) := by decide +kernel
theorem dX4_volume_21 : decode cX4_volume 21 = .ok (.lreturn, 1) := by decide +kernel
theorem dX4_volume_22 : decode cX4_volume 22 = .ok (.aload_n 0, 1) := by decide +kernel
theorem dX4_volume_23 : decode cX4_volume 23 = .ok (.getfield 14, 3) := by decide +kernel
theorem dX4_volume_26 : decode cX4_volume 26 = .ok (.iload_n 1, 1) := by decide +kernel
theorem dX4_volume_27 : decode cX4_volume 27 = .ok (.invokevirtual 109, 3) := by decide +kernel
theorem dX4_volume_30 : decode cX4_volume 30 = .ok (.istore_n 3, 1) := by decide +kernel
theorem dX4_volume_31 : decode cX4_volume 31 = .ok (.iconst 0, 1) := by decide +kernel
theorem dX4_volume_32 : decode cX4_volume 32 = .ok (.istore 4, 2) := by decide +kernel
theorem dX4_volume_34 : decode cX4_volume 34 = .ok (.iload 4, 2) := by decide +kernel
theorem dX4_volume_36 : decode cX4_volume 36 = .ok (.iload_n 3, 1) := by decide +kernel
theorem dX4_volume_37 : decode cX4_volume 37 = .ok (.if_icmp .ge 23, 3) := by decide +kernel
theorem dX4_volume_40 : decode cX4_volume 40 = .ok (.aload_n 0, 1) := by decide +kernel
theorem dX4_volume_41 : decode cX4_volume 41 = .ok (.getfield 54, 3) := by decide +kernel
theorem dX4_volume_44 : decode cX4_volume 44 = .ok (.iload 4, 2) := by decide +kernel
theorem dX4_volume_46 : decode cX4_volume 46 = .ok (.aload_n 0, 1) := by decide +kernel
theorem dX4_volume_47 : decode cX4_volume 47 = .ok (.iload_n 1, 1) := by decide +kernel
theorem dX4_volume_48 : decode cX4_volume 48 = .ok (.iload 4, 2) := by decide +kernel
theorem dX4_volume_50 : decode cX4_volume 50 = .ok (.invokevirtual 143, 3) := by decide +kernel
theorem dX4_volume_53 : decode cX4_volume 53 = .ok (.iastore, 1) := by decide +kernel
theorem dX4_volume_54 : decode cX4_volume 54 = .ok (.iinc 4 1, 3) := by decide +kernel
theorem dX4_volume_57 : decode cX4_volume 57 = .ok (.goto (-23), 3) := by decide +kernel
theorem dX4_volume_60 : decode cX4_volume 60 = .ok (.iload_n 1, 1) := by decide +kernel
theorem dX4_volume_61 : decode cX4_volume 61 = .ok (.ifCond .ne 13, 3) := by decide +kernel
theorem dX4_volume_64 : decode cX4_volume 64 = .ok (.aload_n 0, 1) := by decide +kernel
theorem dX4_volume_65 : decode cX4_volume 65 = .ok (.getfield 48, 3) := by decide +kernel
theorem dX4_volume_68 : decode cX4_volume 68 = .ok (.iconst 3, 1) := by decide +kernel
theorem dX4_volume_69 : decode cX4_volume 69 = .ok (.iaload, 1) := by decide +kernel
theorem dX4_volume_70 : decode cX4_volume 70 = .ok (.i2l, 1) := by decide +kernel
theorem dX4_volume_71 : decode cX4_volume 71 = .ok (.goto 10, 3) := by decide +kernel
theorem dX4_volume_74 : decode cX4_volume 74 = .ok (.aload_n 0, 1) := by decide +kernel
theorem dX4_volume_75 : decode cX4_volume 75 = .ok (.getfield 48, 3) := by decide +kernel
theorem dX4_volume_78 : decode cX4_volume 78 = .ok (.iconst 2, 1) := by decide +kernel
theorem dX4_volume_79 : decode cX4_volume 79 = .ok (.iaload, 1) := by decide +kernel
theorem dX4_volume_80 : decode cX4_volume 80 = .ok (.i2l, 1) := by decide +kernel
theorem dX4_volume_81 : decode cX4_volume 81 = .ok (.lstore 4, 2) := by decide +kernel
theorem dX4_volume_83 : decode cX4_volume 83 = .ok (.aload_n 0, 1) := by decide +kernel
theorem dX4_volume_84 : decode cX4_volume 84 = .ok (.getfield 54, 3) := by decide +kernel
theorem dX4_volume_87 : decode cX4_volume 87 = .ok (.iload_n 3, 1) := by decide +kernel
theorem dX4_volume_88 : decode cX4_volume 88 = .ok (.invokestatic 153, 3) := by decide +kernel
theorem dX4_volume_91 : decode cX4_volume 91 = .ok (.i2l, 1) := by decide +kernel
theorem dX4_volume_92 : decode cX4_volume 92 = .ok (.lload 4, 2) := by decide +kernel
theorem dX4_volume_94 : decode cX4_volume 94 = .ok (.lmul, 1) := by decide +kernel
theorem dX4_volume_95 : decode cX4_volume 95 = .ok (.ldc2_w 157, 3) := by decide +kernel
theorem dX4_volume_98 : decode cX4_volume 98 = .ok (.iload_n 2, 1) := by decide +kernel
theorem dX4_volume_99 : decode cX4_volume 99 = .ok (.invokestatic 148, 3) := by decide +kernel
theorem dX4_volume_102 : decode cX4_volume 102 = .ok (.lreturn, 1) := by decide +kernel
theorem dX4_height_0 : decode cX4_height 0 = .ok (.iload_n 1, 1) := by decide +kernel
theorem dX4_height_1 : decode cX4_height 1 = .ok (.iconst 0, 1) := by decide +kernel
theorem dX4_height_2 : decode cX4_height 2 = .ok (.aload_n 0, 1) := by decide +kernel
theorem dX4_height_3 : decode cX4_height 3 = .ok (.getfield 14, 3) := by decide +kernel
theorem dX4_height_6 : decode cX4_height 6 = .ok (.getfield 159, 3) := by decide +kernel
theorem dX4_height_9 : decode cX4_height 9 = .ok (.iconst 1, 1) := by decide +kernel
theorem dX4_height_10 : decode cX4_height 10 = .ok (.isub, 1) := by decide +kernel
theorem dX4_height_11 : decode cX4_height 11 = .ok (.invokestatic 61, 3) := by decide +kernel
theorem dX4_height_14 : decode cX4_height 14 = .ok (.ifCond .ne 23, 3) := by decide +kernel
theorem dX4_height_17 : decode cX4_height 17 = .ok (.iload_n 2, 1) := by decide +kernel
theorem dX4_height_18 : decode cX4_height 18 = .ok (.iconst 1, 1) := by decide +kernel
theorem dX4_height_19 : decode cX4_height 19 = .ok (.sipush 999, 3) := by decide +kernel
theorem dX4_height_22 : decode cX4_height 22 = .ok (.invokestatic 61, 3) := by decide +kernel
theorem dX4_height_25 : decode cX4_height 25 = .ok (.ifCond .ne 12, 3) := by decide +kernel
theorem dX4_height_28 : decode cX4_height 28 = .ok (.iload_n 3, 1) := by decide +kernel
theorem dX4_height_29 : decode cX4_height 29 = .ok (.iconst 0, 1) := by decide +kernel
theorem dX4_height_30 : decode cX4_height 30 = .ok (.iconst 1, 1) := by decide +kernel
theorem dX4_height_31 : decode cX4_height 31 = .ok (.invokestatic 61, 3) := by decide +kernel
theorem dX4_height_34 : decode cX4_height 34 = .ok (.ifCond .eq 7, 3) := by decide +kernel
theorem dX4_height_37 : decode cX4_height 37 = .ok (.ldc2_w 141, 3) := by decide +kernel
theorem dX4_height_40 : decode cX4_height 40 = .ok (.lreturn, 1) := by decide +kernel
theorem dX4_height_41 : decode cX4_height 41 = .ok (.aload_n 0, 1) := by decide +kernel
theorem dX4_height_42 : decode cX4_height 42 = .ok (.getfield 35, 3) := by decide +kernel
theorem dX4_height_45 : decode cX4_height 45 = .ok (.aload_n 0, 1) := by decide +kernel
theorem dX4_height_46 : decode cX4_height 46 = .ok (.getfield 14, 3) := by decide +kernel
theorem dX4_height_49 : decode cX4_height 49 = .ok (.iload_n 1, 1) := by decide +kernel
theorem dX4_height_50 : decode cX4_height 50 = .ok (.iload_n 2, 1) := by decide +kernel
theorem dX4_height_51 : decode cX4_height 51 = .ok (.invokevirtual 162, 3) := by decide +kernel
theorem dX4_height_54 : decode cX4_height 54 = .ok (.aload_n 0, 1) := by decide +kernel
theorem dX4_height_55 : decode cX4_height 55 = .ok (.getfield 35, 3) := by decide +kernel
theorem dX4_height_58 : decode cX4_height 58 = .ok (.iload_n 1, 1) := by decide +kernel
theorem dX4_height_59 : decode cX4_height 59 = .ok (.invokevirtual 166, 3) := by decide +kernel
theorem dX4_height_62 : decode cX4_height 62 = .ok (.ifCond .ne 7, 3) := by decide +kernel
theorem dX4_height_65 : decode cX4_height 65 = .ok (.ldc2_w 141, 3) := by decide +kernel
theorem dX4_height_68 : decode cX4_height 68 = .ok (.lreturn, 1) := by decide +kernel
theorem dX4_height_69 : decode cX4_height 69 = .ok (.aload_n 0, 1) := by decide +kernel
theorem dX4_height_70 : decode cX4_height 70 = .ok (.getfield 35, 3) := by decide +kernel
theorem dX4_height_73 : decode cX4_height 73 = .ok (.getfield 170, 3) := by decide +kernel
theorem dX4_height_76 : decode cX4_height 76 = .ok (.iload_n 1, 1) := by decide +kernel
theorem dX4_height_77 : decode cX4_height 77 = .ok (.laload, 1) := by decide +kernel
theorem dX4_height_78 : decode cX4_height 78 = .ok (.aload_n 0, 1) := by decide +kernel
theorem dX4_height_79 : decode cX4_height 79 = .ok (.getfield 35, 3) := by decide +kernel
theorem dX4_height_82 : decode cX4_height 82 = .ok (.getfield 174, 3) := by decide +kernel
theorem dX4_height_85 : decode cX4_height 85 = .ok (.iload_n 1, 1) := by decide +kernel
theorem dX4_height_86 : decode cX4_height 86 = .ok (.laload, 1) := by decide +kernel
theorem dX4_height_87 : decode cX4_height 87 = .ok (.iload_n 3, 1) := by decide +kernel
theorem dX4_height_88 : decode cX4_height 88 = .ok (.invokestatic 148, 3) := by decide +kernel
theorem dX4_height_91 : decode cX4_height 91 = .ok (.lreturn, 1) := by decide +kernel
theorem dX4_breaks_0 : decode cX4_breaks 0 = .ok (.iload_n 1, 1) := by decide +kernel
theorem dX4_breaks_1 : decode cX4_breaks 1 = .ok (.iconst 1, 1) := by decide +kernel
theorem dX4_breaks_2 : decode cX4_breaks 2 = .ok (.sipush 999, 3) := by decide +kernel
theorem dX4_breaks_5 : decode cX4_breaks 5 = .ok (.invokestatic 61, 3) := by decide +kernel
theorem dX4_breaks_8 : decode cX4_breaks 8 = .ok (.ifCond .eq 8, 3) := by decide +kernel
theorem dX4_breaks_11 : decode cX4_breaks 11 = .ok (.bipush (-2), 2) := by decide +kernel
theorem dX4_breaks_13 : decode cX4_breaks 13 = .ok (.goto 21, 3) := by decide +kernel
theorem dX4_breaks_16 : decode cX4_breaks 16 = .ok (.aload_n 0, 1) := by decide +kernel
theorem dX4_breaks_17 : decode cX4_breaks 17 = .ok (.getfield 35, 3) := by decide +kernel
theorem dX4_breaks_20 : decode cX4_breaks 20 = .ok (.aload_n 0, 1) := by decide +kernel
theorem dX4_breaks_21 : decode cX4_breaks 21 = .ok (.getfield 14, 3) := by decide +kernel
theorem dX4_breaks_24 : decode cX4_breaks 24 = .ok (.iload_n 1, 1) := by decide +kernel
theorem dX4_breaks_25 : decode cX4_breaks 25 = .ok (.aload_n 0, 1) := by decide +kernel
theorem dX4_breaks_26 : decode cX4_breaks 26 = .ok (.getfield 48, 3) := by decide +kernel
theorem dX4_breaks_29 : decode cX4_breaks 29 = .ok (.iconst 0, 1) := by decide +kernel
theorem dX4_breaks_30 : decode cX4_breaks 30 = .ok (.iaload, 1) := by decide +kernel
theorem dX4_breaks_31 : decode cX4_breaks 31 = .ok (.invokevirtual 177, 3) := by decide +kernel
theorem dX4_breaks_34 : decode cX4_breaks 34 = .ok (.ireturn, 1) := by decide +kernel
theorem dX4_worst_0 : decode cX4_worst 0 = .ok (.aload_n 0, 1) := by decide +kernel
theorem dX4_worst_1 : decode cX4_worst 1 = .ok (.getfield 14, 3) := by decide +kernel
theorem dX4_worst_4 : decode cX4_worst 4 = .ok (.invokevirtual 181, 3) := by decide +kernel
theorem dX4_worst_7 : decode cX4_worst 7 = .ok (.istore_n 1, 1) := by decide +kernel
theorem dX4_worst_8 : decode cX4_worst 8 = .ok (.iconst 0, 1) := by decide +kernel
theorem dX4_worst_9 : decode cX4_worst 9 = .ok (.istore_n 2, 1) := by decide +kernel
theorem dX4_worst_10 : decode cX4_worst 10 = .ok (.iconst 1, 1) := by decide +kernel
theorem dX4_worst_11 : decode cX4_worst 11 = .ok (.istore_n 3, 1) := by decide +kernel
theorem dX4_worst_12 : decode cX4_worst 12 = .ok (.iconst 1, 1) := by decide +kernel
theorem dX4_worst_13 : decode cX4_worst 13 = .ok (.istore 4, 2) := by decide +kernel
theorem dX4_worst_15 : decode cX4_worst 15 = .ok (.iload 4, 2) := by decide +kernel
theorem dX4_worst_17 : decode cX4_worst 17 = .ok (.iload_n 1, 1) := by decide +kernel
theorem dX4_worst_18 : decode cX4_worst 18 = .ok (.if_icmp .gt 42, 3) := by decide +kernel
theorem dX4_worst_21 : decode cX4_worst 21 = .ok (.aload_n 0, 1) := by decide +kernel
theorem dX4_worst_22 : decode cX4_worst 22 = .ok (.getfield 35, 3) := by decide +kernel
theorem dX4_worst_25 : decode cX4_worst 25 = .ok (.aload_n 0, 1) := by decide +kernel
theorem dX4_worst_26 : decode cX4_worst 26 = .ok (.getfield 14, 3) := by decide +kernel
theorem dX4_worst_29 : decode cX4_worst 29 = .ok (.iload 4, 2) := by decide +kernel
theorem dX4_worst_31 : decode cX4_worst 31 = .ok (.aload_n 0, 1) := by decide +kernel
theorem dX4_worst_32 : decode cX4_worst 32 = .ok (.getfield 48, 3) := by decide +kernel
theorem dX4_worst_35 : decode cX4_worst 35 = .ok (.iconst 0, 1) := by decide +kernel
theorem dX4_worst_36 : decode cX4_worst 36 = .ok (.iaload, 1) := by decide +kernel
theorem dX4_worst_37 : decode cX4_worst 37 = .ok (.invokevirtual 177, 3) := by decide +kernel
theorem dX4_worst_40 : decode cX4_worst 40 = .ok (.istore 5, 2) := by decide +kernel
theorem dX4_worst_42 : decode cX4_worst 42 = .ok (.iload 5, 2) := by decide +kernel
theorem dX4_worst_44 : decode cX4_worst 44 = .ok (.iload_n 2, 1) := by decide +kernel
theorem dX4_worst_45 : decode cX4_worst 45 = .ok (.if_icmp .le 9, 3) := by decide +kernel
theorem dX4_worst_48 : decode cX4_worst 48 = .ok (.iload 5, 2) := by decide +kernel
theorem dX4_worst_50 : decode cX4_worst 50 = .ok (.istore_n 2, 1) := by decide +kernel
theorem dX4_worst_51 : decode cX4_worst 51 = .ok (.iload 4, 2) := by decide +kernel
theorem dX4_worst_53 : decode cX4_worst 53 = .ok (.istore_n 3, 1) := by decide +kernel
theorem dX4_worst_54 : decode cX4_worst 54 = .ok (.iinc 4 1, 3) := by decide +kernel
theorem dX4_worst_57 : decode cX4_worst 57 = .ok (.goto (-42), 3) := by decide +kernel
theorem dX4_worst_60 : decode cX4_worst 60 = .ok (.iload_n 3, 1) := by decide +kernel
theorem dX4_worst_61 : decode cX4_worst 61 = .ok (.ireturn, 1) := by decide +kernel
theorem dX4_many_0 : decode cX4_many 0 = .ok (.iload_n 1, 1) := by decide +kernel
theorem dX4_many_1 : decode cX4_many 1 = .ok (.tableswitch 72 0 4 #[35, 43, 51, 59, 64], 35) := by decide +kernel
theorem dX4_many_36 : decode cX4_many 36 = .ok (.aload_n 0, 1) := by decide +kernel
theorem dX4_many_37 : decode cX4_many 37 = .ok (.getfield 14, 3) := by decide +kernel
theorem dX4_many_40 : decode cX4_many 40 = .ok (.getfield 159, 3) := by decide +kernel
theorem dX4_many_43 : decode cX4_many 43 = .ok (.ireturn, 1) := by decide +kernel
theorem dX4_many_44 : decode cX4_many 44 = .ok (.aload_n 0, 1) := by decide +kernel
theorem dX4_many_45 : decode cX4_many 45 = .ok (.getfield 14, 3) := by decide +kernel
theorem dX4_many_48 : decode cX4_many 48 = .ok (.getfield 184, 3) := by decide +kernel
theorem dX4_many_51 : decode cX4_many 51 = .ok (.ireturn, 1) := by decide +kernel
theorem dX4_many_52 : decode cX4_many 52 = .ok (.aload_n 0, 1) := by decide +kernel
theorem dX4_many_53 : decode cX4_many 53 = .ok (.getfield 14, 3) := by decide +kernel
theorem dX4_many_56 : decode cX4_many 56 = .ok (.invokevirtual 187, 3) := by decide +kernel
theorem dX4_many_59 : decode cX4_many 59 = .ok (.ireturn, 1) := by decide +kernel
theorem dX4_many_60 : decode cX4_many 60 = .ok (.aload_n 0, 1) := by decide +kernel
theorem dX4_many_61 : decode cX4_many 61 = .ok (.invokevirtual 190, 3) := by decide +kernel
theorem dX4_many_64 : decode cX4_many 64 = .ok (.ireturn, 1) := by decide +kernel
theorem dX4_many_65 : decode cX4_many 65 = .ok (.aload_n 0, 1) := by decide +kernel
theorem dX4_many_66 : decode cX4_many 66 = .ok (.getfield 14, 3) := by decide +kernel
theorem dX4_many_69 : decode cX4_many 69 = .ok (.invokevirtual 193, 3) := by decide +kernel
theorem dX4_many_72 : decode cX4_many 72 = .ok (.ireturn, 1) := by decide +kernel
theorem dX4_many_73 : decode cX4_many 73 = .ok (.bipush (-2), 2) := by decide +kernel
theorem dX4_many_75 : decode cX4_many 75 = .ok (.ireturn, 1) := by decide +kernel
theorem dX4_isNot_0 : decode cX4_isNot 0 = .ok (.iload_n 0, 1) := by decide +kernel
theorem dX4_isNot_1 : decode cX4_isNot 1 = .ok (.iload_n 1, 1) := by decide +kernel
