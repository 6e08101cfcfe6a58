theorem dX4_isParted_3 : decode cX4_isParted 3 = .ok (.getfield 55, 3) := by decide +kernel
theorem dX4_isParted_6 : decode cX4_isParted 6 = .ok (.iload_n 2, 1) := by decide +kernel
theorem dX4_isParted_7 : decode cX4_isParted 7 = .ok (.laload, 1) := by decide +kernel
theorem dX4_isParted_8 : decode cX4_isParted 8 = .ok (.aload_n 0, 1) := by decide +kernel
theorem dX4_isParted_9 : decode cX4_isParted 9 = .ok (.getfield 58, 3) := by decide +kernel
theorem dX4_isParted_12 : decode cX4_isParted 12 = .ok (.iload_n 2, 1) := by decide +kernel
theorem dX4_isParted_13 : decode cX4_isParted 13 = .ok (.laload, 1) := by decide +kernel
theorem dX4_isParted_14 : decode cX4_isParted 14 = .ok (.invokevirtual 192, 3) := by decide +kernel
theorem dX4_isParted_17 : decode cX4_isParted 17 = .ok (.lstore_n 3, 1) := by decide +kernel
theorem dX4_isParted_18 : decode cX4_isParted 18 = .ok (.aload_n 0, 1) := by decide +kernel
theorem dX4_isParted_19 : decode cX4_isParted 19 = .ok (.iload_n 1, 1) := by decide +kernel
theorem dX4_isParted_20 : decode cX4_isParted 20 = .ok (.aload_n 0, 1) := by decide +kernel
theorem dX4_isParted_21 : decode cX4_isParted 21 = .ok (.getfield 61, 3) := by decide +kernel
theorem dX4_isParted_24 : decode cX4_isParted 24 = .ok (.iload_n 2, 1) := by decide +kernel
theorem dX4_isParted_25 : decode cX4_isParted 25 = .ok (.laload, 1) := by decide +kernel
theorem dX4_isParted_26 : decode cX4_isParted 26 = .ok (.aload_n 0, 1) := by decide +kernel
theorem dX4_isParted_27 : decode cX4_isParted 27 = .ok (.getfield 64, 3) := by decide +kernel
theorem dX4_isParted_30 : decode cX4_isParted 30 = .ok (.iload_n 2, 1) := by decide +kernel
theorem dX4_isParted_31 : decode cX4_isParted 31 = .ok (.laload, 1) := by decide +kernel
theorem dX4_isParted_32 : decode cX4_isParted 32 = .ok (.invokevirtual 192, 3) := by decide +kernel
theorem dX4_isParted_35 : decode cX4_isParted 35 = .ok (.lstore 5, 2) := by decide +kernel
theorem dX4_isParted_37 : decode cX4_isParted 37 = .ok (.lload_n 3, 1) := by decide +kernel
theorem dX4_isParted_38 : decode cX4_isParted 38 = .ok (.lconst 0, 1) := by decide +kernel
theorem dX4_isParted_39 : decode cX4_isParted 39 = .ok (.lcmp, 1) := by decide +kernel
theorem dX4_isParted_40 : decode cX4_isParted 40 = .ok (.ifCond .le 10, 3) := by decide +kernel
theorem dX4_isParted_43 : decode cX4_isParted 43 = .ok (.lload 5, 2) := by decide +kernel
theorem dX4_isParted_45 : decode cX4_isParted 45 = .ok (.lconst 0, 1) := by decide +kernel
theorem dX4_isParted_46 : decode cX4_isParted 46 = .ok (.lcmp, 1) := by decide +kernel
theorem dX4_isParted_47 : decode cX4_isParted 47 = .ok (.ifCond .lt 16, 3) := by decide +kernel
theorem dX4_isParted_50 : decode cX4_isParted 50 = .ok (.lload_n 3, 1) := by decide +kernel
theorem dX4_isParted_51 : decode cX4_isParted 51 = .ok (.lconst 0, 1) := by decide +kernel
theorem dX4_isParted_52 : decode cX4_isParted 52 = .ok (.lcmp, 1) := by decide +kernel
theorem dX4_isParted_53 : decode cX4_isParted 53 = .ok (.ifCond .ge 14, 3) := by decide +kernel
theorem dX4_isParted_56 : decode cX4_isParted 56 = .ok (.lload 5, 2) := by decide +kernel
theorem dX4_isParted_58 : decode cX4_isParted 58 = .ok (.lconst 0, 1) := by decide +kernel
theorem dX4_isParted_59 : decode cX4_isParted 59 = .ok (.lcmp, 1) := by decide +kernel
theorem dX4_isParted_60 : decode cX4_isParted 60 = .ok (.ifCond .le 7, 3) := by decide +kernel
theorem dX4_isParted_63 : decode cX4_isParted 63 = .ok (.iconst 1, 1) := by decide +kernel
theorem dX4_isParted_64 : decode cX4_isParted 64 = .ok (.goto 4, 3) := by decide +kernel
theorem dX4_isParted_67 : decode cX4_isParted 67 = .ok (.iconst 0, 1) := by decide +kernel
theorem dX4_isParted_68 : decode cX4_isParted 68 = .ok (.ireturn, 1) := by decide +kernel
theorem dX4_cross_0 : decode cX4_cross 0 = .ok (.aload_n 0, 1) := by decide +kernel
theorem dX4_cross_1 : decode cX4_cross 1 = .ok (.getfield 67, 3) := by decide +kernel
theorem dX4_cross_4 : decode cX4_cross 4 = .ok (.iload_n 1, 1) := by decide +kernel
theorem dX4_cross_5 : decode cX4_cross 5 = .ok (.baload, 1) := by decide +kernel
theorem dX4_cross_6 : decode cX4_cross 6 = .ok (.ifCond .eq 34, 3) := by decide +kernel
theorem dX4_cross_9 : decode cX4_cross 9 = .ok (.aload_n 0, 1) := by decide +kernel
theorem dX4_cross_10 : decode cX4_cross 10 = .ok (.getfield 67, 3) := by decide +kernel
theorem dX4_cross_13 : decode cX4_cross 13 = .ok (.iload_n 2, 1) := by decide +kernel
theorem dX4_cross_14 : decode cX4_cross 14 = .ok (.baload, 1) := by decide +kernel
theorem dX4_cross_15 : decode cX4_cross 15 = .ok (.ifCond .eq 25, 3) := by decide +kernel
theorem dX4_cross_18 : decode cX4_cross 18 = .ok (.aload_n 0, 1) := by decide +kernel
theorem dX4_cross_19 : decode cX4_cross 19 = .ok (.iload_n 1, 1) := by decide +kernel
theorem dX4_cross_20 : decode cX4_cross 20 = .ok (.iload_n 2, 1) := by decide +kernel
theorem dX4_cross_21 : decode cX4_cross 21 = .ok (.invokevirtual 196, 3) := by decide +kernel
theorem dX4_cross_24 : decode cX4_cross 24 = .ok (.ifCond .eq 16, 3) := by decide +kernel
theorem dX4_cross_27 : decode cX4_cross 27 = .ok (.aload_n 0, 1) := by decide +kernel
theorem dX4_cross_28 : decode cX4_cross 28 = .ok (.iload_n 2, 1) := by decide +kernel
theorem dX4_cross_29 : decode cX4_cross 29 = .ok (.iload_n 1, 1) := by decide +kernel
theorem dX4_cross_30 : decode cX4_cross 30 = .ok (.invokevirtual 196, 3) := by decide +kernel
theorem dX4_cross_33 : decode cX4_cross 33 = .ok (.ifCond .eq 7, 3) := by decide +kernel
theorem dX4_cross_36 : decode cX4_cross 36 = .ok (.iconst 1, 1) := by decide +kernel
theorem dX4_cross_37 : decode cX4_cross 37 = .ok (.goto 4, 3) := by decide +kernel
theorem dX4_cross_40 : decode cX4_cross 40 = .ok (.iconst 0, 1) := by decide +kernel
theorem dX4_cross_41 : decode cX4_cross 41 = .ok (.ireturn, 1) := by decide +kernel
theorem dX4_meet_0 : decode cX4_meet 0 = .ok (.aload_n 0, 1) := by decide +kernel
theorem dX4_meet_1 : decode cX4_meet 1 = .ok (.iload_n 1, 1) := by decide +kernel
theorem dX4_meet_2 : decode cX4_meet 2 = .ok (.invokevirtual 145, 3) := by decide +kernel
theorem dX4_meet_5 : decode cX4_meet 5 = .ok (.ifCond .eq 23, 3) := by decide +kernel
theorem dX4_meet_8 : decode cX4_meet 8 = .ok (.aload_n 0, 1) := by decide +kernel
theorem dX4_meet_9 : decode cX4_meet 9 = .ok (.iload_n 2, 1) := by decide +kernel
theorem dX4_meet_10 : decode cX4_meet 10 = .ok (.invokevirtual 145, 3) := by decide +kernel
theorem dX4_meet_13 : decode cX4_meet 13 = .ok (.ifCond .eq 15, 3) := by decide +kernel
theorem dX4_meet_16 : decode cX4_meet 16 = .ok (.iload_n 1, 1) := by decide +kernel
theorem dX4_meet_17 : decode cX4_meet 17 = .ok (.iload_n 2, 1) := by decide +kernel
theorem dX4_meet_18 : decode cX4_meet 18 = .ok (.if_icmp .eq 10, 3) := by decide +kernel
theorem dX4_meet_21 : decode cX4_meet 21 = .ok (.iload_n 3, 1) := by decide +kernel
theorem dX4_meet_22 : decode cX4_meet 22 = .ok (.invokestatic 170, 3) := by decide +kernel
theorem dX4_meet_25 : decode cX4_meet 25 = .ok (.ifCond .ne 9, 3) := by decide +kernel
theorem dX4_meet_28 : decode cX4_meet 28 = .ok (.aload_n 0, 1) := by decide +kernel
theorem dX4_meet_29 : decode cX4_meet 29 = .ok (.iconst (-1), 1) := by decide +kernel
theorem dX4_meet_30 : decode cX4_meet 30 = .ok (.invokevirtual 95, 3) := by decide +kernel
theorem dX4_meet_33 : decode cX4_meet 33 = .ok (.ireturn, 1) := by decide +kernel
theorem dX4_meet_34 : decode cX4_meet 34 = .ok (.aload_n 0, 1) := by decide +kernel
theorem dX4_meet_35 : decode cX4_meet 35 = .ok (.iload_n 3, 1) := by decide +kernel
theorem dX4_meet_36 : decode cX4_meet 36 = .ok (.invokevirtual 200, 3) := by decide +kernel
theorem dX4_meet_39 : decode cX4_meet 39 = .ok (.aload_n 0, 1) := by decide +kernel
theorem dX4_meet_40 : decode cX4_meet 40 = .ok (.iload_n 1, 1) := by decide +kernel
theorem dX4_meet_41 : decode cX4_meet 41 = .ok (.iload_n 2, 1) := by decide +kernel
theorem dX4_meet_42 : decode cX4_meet 42 = .ok (.invokevirtual 203, 3) := by decide +kernel
theorem dX4_meet_45 : decode cX4_meet 45 = .ok (.ifCond .eq 7, 3) := by decide +kernel
theorem dX4_meet_48 : decode cX4_meet 48 = .ok (.iconst 1, 1) := by decide +kernel
theorem dX4_meet_49 : decode cX4_meet 49 = .ok (.goto 4, 3) := by decide +kernel
theorem dX4_meet_52 : decode cX4_meet 52 = .ok (.iconst 0, 1) := by decide +kernel
theorem dX4_meet_53 : decode cX4_meet 53 = .ok (.ireturn, 1) := by decide +kernel
theorem dX4_meets_0 : decode cX4_meets 0 = .ok (.iload_n 1, 1) := by decide +kernel
theorem dX4_meets_1 : decode cX4_meets 1 = .ok (.i2l, 1) := by decide +kernel
theorem dX4_meets_2 : decode cX4_meets 2 = .ok (.lconst 0, 1) := by decide +kernel
theorem dX4_meets_3 : decode cX4_meets 3 = .ok (.ldc2_w 87, 3) := by decide +kernel
theorem dX4_meets_6 : decode cX4_meets 6 = .ok (.invokestatic 83, 3) := by decide +kernel
theorem dX4_meets_9 : decode cX4_meets 9 = .ok (.ifCond .ne 10, 3) := by decide +kernel
theorem dX4_meets_12 : decode cX4_meets 12 = .ok (.aload_n 0, 1) := by decide +kernel
theorem dX4_meets_13 : decode cX4_meets 13 = .ok (.bipush (-2), 2) := by decide +kernel
theorem dX4_meets_15 : decode cX4_meets 15 = .ok (.invokevirtual 95, 3) := by decide +kernel
theorem dX4_meets_18 : decode cX4_meets 18 = .ok (.ireturn, 1) := by decide +kernel
theorem dX4_meets_19 : decode cX4_meets 19 = .ok (.iconst 0, 1) := by decide +kernel
theorem dX4_meets_20 : decode cX4_meets 20 = .ok (.istore_n 2, 1) := by decide +kernel
theorem dX4_meets_21 : decode cX4_meets 21 = .ok (.iload_n 2, 1) := by decide +kernel
theorem dX4_meets_22 : decode cX4_meets 22 = .ok (.bipush 17, 2) := by decide +kernel
theorem dX4_meets_24 : decode cX4_meets 24 = .ok (.if_icmp .ge 88, 3) := by decide +kernel
theorem dX4_meets_27 : decode cX4_meets 27 = .ok (.aload_n 0, 1) := by decide +kernel
theorem dX4_meets_28 : decode cX4_meets 28 = .ok (.iload_n 2, 1) := by decide +kernel
theorem dX4_meets_29 : decode cX4_meets 29 = .ok (.invokevirtual 200, 3) := by decide +kernel
theorem dX4_meets_32 : decode cX4_meets 32 = .ok (.iconst 0, 1) := by decide +kernel
theorem dX4_meets_33 : decode cX4_meets 33 = .ok (.istore_n 3, 1) := by decide +kernel
theorem dX4_meets_34 : decode cX4_meets 34 = .ok (.iload_n 3, 1) := by decide +kernel
theorem dX4_meets_35 : decode cX4_meets 35 = .ok (.iconst 2, 1) := by decide +kernel
theorem dX4_meets_36 : decode cX4_meets 36 = .ok (.aload_n 0, 1) := by decide +kernel
theorem dX4_meets_37 : decode cX4_meets 37 = .ok (.getfield 80, 3) := by decide +kernel
theorem dX4_meets_40 : decode cX4_meets 40 = .ok (.imul, 1) := by decide +kernel
theorem dX4_meets_41 : decode cX4_meets 41 = .ok (.iconst 2, 1) := by decide +kernel
theorem dX4_meets_42 : decode cX4_meets 42 = .ok (.iadd, 1) := by decide +kernel
theorem dX4_meets_43 : decode cX4_meets 43 = .ok (.if_icmp .ge 63, 3) := by decide +kernel
theorem dX4_meets_46 : decode cX4_meets 46 = .ok (.iload_n 3, 1) := by decide +kernel
theorem dX4_meets_47 : decode cX4_meets 47 = .ok (.iconst 1, 1) := by decide +kernel
theorem dX4_meets_48 : decode cX4_meets 48 = .ok (.iadd, 1) := by decide +kernel
theorem dX4_meets_49 : decode cX4_meets 49 = .ok (.istore 4, 2) := by decide +kernel
theorem dX4_meets_51 : decode cX4_meets 51 = .ok (.iload 4, 2) := by decide +kernel
theorem dX4_meets_53 : decode cX4_meets 53 = .ok (.iconst 2, 1) := by decide +kernel
theorem dX4_meets_54 : decode cX4_meets 54 = .ok (.aload_n 0, 1) := by decide +kernel
theorem dX4_meets_55 : decode cX4_meets 55 = .ok (.getfield 80, 3) := by decide +kernel
theorem dX4_meets_58 : decode cX4_meets 58 = .ok (.imul, 1) := by decide +kernel
theorem dX4_meets_59 : decode cX4_meets 59 = .ok (.iconst 2, 1) := by decide +kernel
theorem dX4_meets_60 : decode cX4_meets 60 = .ok (.iadd, 1) := by decide +kernel
theorem dX4_meets_61 : decode cX4_meets 61 = .ok (.if_icmp .ge 39, 3) := by decide +kernel
theorem dX4_meets_64 : decode cX4_meets 64 = .ok (.aload_n 0, 1) := by decide +kernel
theorem dX4_meets_65 : decode cX4_meets 65 = .ok (.iload_n 3, 1) := by decide +kernel
theorem dX4_meets_66 : decode cX4_meets 66 = .ok (.iload 4, 2) := by decide +kernel
theorem dX4_meets_68 : decode cX4_meets 68 = .ok (.invokevirtual 203, 3) := by decide +kernel
theorem dX4_meets_71 : decode cX4_meets 71 = .ok (.ifCond .eq 23, 3) := by decide +kernel
theorem dX4_meets_74 : decode cX4_meets 74 = .ok (.iload_n 1, 1) := by decide +kernel
theorem dX4_meets_75 : decode cX4_meets 75 = .ok (.ifCond .ne 7, 3) := by decide +kernel
theorem dX4_meets_78 : decode cX4_meets 78 = .ok (.iload_n 2, 1) := by decide +kernel
theorem dX4_meets_79 : decode cX4_meets 79 = .ok (.goto 14, 3) := by decide +kernel
theorem dX4_meets_82 : decode cX4_meets 82 = .ok (.iload_n 1, 1) := by decide +kernel
theorem dX4_meets_83 : decode cX4_meets 83 = .ok (.iconst 1, 1) := by decide +kernel
theorem dX4_meets_84 : decode cX4_meets 84 = .ok (.if_icmp .ne 7, 3) := by decide +kernel
theorem dX4_meets_87 : decode cX4_meets 87 = .ok (.iload_n 3, 1) := by decide +kernel
theorem dX4_meets_88 : decode cX4_meets 88 = .ok (.goto 5, 3) := by decide +kernel
theorem dX4_meets_91 : decode cX4_meets 91 = .ok (.iload 4, 2) := by decide +kernel
theorem dX4_meets_93 : decode cX4_meets 93 = .ok (.ireturn, 1) := by decide +kernel
theorem dX4_meets_94 : decode cX4_meets 94 = .ok (.iinc 4 1, 3) := by decide +kernel
theorem dX4_meets_97 : decode cX4_meets 97 = .ok (.goto (-46), 3) := by decide +kernel
theorem dX4_meets_100 : decode cX4_meets 100 = .ok (.iinc 3 1, 3) := by decide +kernel
theorem dX4_meets_103 : decode cX4_meets 103 = .ok (.goto (-69), 3) := by decide +kernel
theorem dX4_meets_106 : decode cX4_meets 106 = .ok (.iinc 2 1, 3) := by decide +kernel
theorem dX4_meets_109 : decode cX4_meets 109 = .ok (.goto (-88), 3) := by decide +kernel
theorem dX4_meets_112 : decode cX4_meets 112 = .ok (.bipush (-9), 2) := by decide +kernel
theorem dX4_meets_114 : decode cX4_meets 114 = .ok (.ireturn, 1) := by decide +kernel
theorem dX4_tall_0 : decode cX4_tall 0 = .ok (.iload_n 1, 1) := by decide +kernel
theorem dX4_tall_1 : decode cX4_tall 1 = .ok (.invokestatic 170, 3) := by decide +kernel
theorem dX4_tall_4 : decode cX4_tall 4 = .ok (.ifCond .ne 9, 3) := by decide +kernel
theorem dX4_tall_7 : decode cX4_tall 7 = .ok (.aload_n 0, 1) := by decide +kernel
theorem dX4_tall_8 : decode cX4_tall 8 = .ok (.iconst (-1), 1) := by decide +kernel
theorem dX4_tall_9 : decode cX4_tall 9 = .ok (.invokevirtual 173, 3) := by decide +kernel
theorem dX4_tall_12 : decode cX4_tall 12 = .ok (.ireturn, 1) := by decide +kernel
theorem dX4_tall_13 : decode cX4_tall 13 = .ok (.aload_n 0, 1) := by decide +kernel
theorem dX4_tall_14 : decode cX4_tall 14 = .ok (.iload_n 1, 1) := by decide +kernel
theorem dX4_tall_15 : decode cX4_tall 15 = .ok (.invokevirtual 155, 3) := by decide +kernel
theorem dX4_tall_18 : decode cX4_tall 18 = .ok (.lconst 0, 1) := by decide +kernel
theorem dX4_tall_19 : decode cX4_tall 19 = .ok (.lstore_n 2, 1) := by decide +kernel
theorem dX4_tall_20 : decode cX4_tall 20 = .ok (.iconst 0, 1) := by decide +kernel
theorem dX4_tall_21 : decode cX4_tall 21 = .ok (.istore 4, 2) := by decide +kernel
theorem dX4_tall_23 : decode cX4_tall 23 = .ok (.iconst 0, 1) := by decide +kernel
theorem dX4_tall_24 : decode cX4_tall 24 = .ok (.istore 5, 2) := by decide +kernel
theorem dX4_tall_26 : decode cX4_tall 26 = .ok (.iload 5, 2) := by decide +kernel
theorem dX4_tall_28 : decode cX4_tall 28 = .ok (.aload_n 0, 1) := by decide +kernel
theorem dX4_tall_29 : decode cX4_tall 29 = .ok (.getfield 80, 3) := by decide +kernel
theorem dX4_tall_32 : decode cX4_tall 32 = .ok (.if_icmp .ge 51, 3) := by decide +kernel
theorem dX4_tall_35 : decode cX4_tall 35 = .ok (.aload_n 0, 1) := by decide +kernel
theorem dX4_tall_36 : decode cX4_tall 36 = .ok (.getfield 49, 3) := by decide +kernel
theorem dX4_tall_39 : decode cX4_tall 39 = .ok (.iload 5, 2) := by decide +kernel
theorem dX4_tall_41 : decode cX4_tall 41 = .ok (.baload, 1) := by decide +kernel
theorem dX4_tall_42 : decode cX4_tall 42 = .ok (.ifCond .ne 35, 3) := by decide +kernel
theorem dX4_tall_45 : decode cX4_tall 45 = .ok (.iload 4, 2) := by decide +kernel
theorem dX4_tall_47 : decode cX4_tall 47 = .ok (.ifCond .eq 15, 3) := by decide +kernel
theorem dX4_tall_50 : decode cX4_tall 50 = .ok (.aload_n 0, 1) := by decide +kernel
theorem dX4_tall_51 : decode cX4_tall 51 = .ok (.getfield 46, 3) := by decide +kernel
theorem dX4_tall_54 : decode cX4_tall 54 = .ok (.iload 5, 2) := by decide +kernel
theorem dX4_tall_56 : decode cX4_tall 56 = .ok (.laload, 1) := by decide +kernel
theorem dX4_tall_57 : decode cX4_tall 57 = .ok (.lload_n 2, 1) := by decide +kernel
theorem dX4_tall_58 : decode cX4_tall 58 = .ok (.lcmp, 1) := by decide +kernel
theorem dX4_tall_59 : decode cX4_tall 59 = .ok (.ifCond .le 13, 3) := by decide +kernel
theorem dX4_tall_62 : decode cX4_tall 62 = .ok (.aload_n 0, 1) := by decide +kernel
theorem dX4_tall_63 : decode cX4_tall 63 = .ok (.getfield 46, 3) := by decide +kernel
theorem dX4_tall_66 : decode cX4_tall 66 = .ok (.iload 5, 2) := by decide +kernel
theorem dX4_tall_68 : decode cX4_tall 68 = .ok (.laload, 1) := by decide +kernel
theorem dX4_tall_69 : decode cX4_tall 69 = .ok (.goto 4, 3) := by decide +kernel
theorem dX4_tall_72 : decode cX4_tall 72 = .ok (.lload_n 2, 1) := by decide +kernel
theorem dX4_tall_73 : decode cX4_tall 73 = .ok (.lstore_n 2, 1) := by decide +kernel
theorem dX4_tall_74 : decode cX4_tall 74 = .ok (.iconst 1, 1) := by decide +kernel
theorem dX4_tall_75 : decode cX4_tall 75 = .ok (.istore 4, 2) := by decide +kernel
theorem dX4_tall_77 : decode cX4_tall 77 = .ok (.iinc 5 1, 3) := by decide +kernel
theorem dX4_tall_80 : decode cX4_tall 80 = .ok (.goto (-54), 3) := by decide +kernel
theorem dX4_tall_83 : decode cX4_tall 83 = .ok (.lload_n 2, 1) := by decide +kernel
theorem dX4_tall_84 : decode cX4_tall 84 = .ok (.l2i, 1) := by decide +kernel
theorem dX4_tall_85 : decode cX4_tall 85 = .ok (.ireturn, 1) := by decide +kernel
theorem dX4_keep_0 : decode cX4_keep 0 = .ok (.iconst 0, 1) := by decide +kernel
theorem dX4_keep_1 : decode cX4_keep 1 = .ok (.istore_n 1, 1) := by decide +kernel
theorem dX4_keep_2 : decode cX4_keep 2 = .ok (.iload_n 1, 1) := by decide +kernel
theorem dX4_keep_3 : decode cX4_keep 3 = .ok (.aload_n 0, 1) := by decide +kernel
theorem dX4_keep_4 : decode cX4_keep 4 = .ok (.getfield 80, 3) := by decide +kernel
theorem dX4_keep_7 : decode cX4_keep 7 = .ok (.if_icmp .ge 45, 3) := by decide +kernel
theorem dX4_keep_10 : decode cX4_keep 10 = .ok (.aload_n 0, 1) := by decide +kernel
theorem dX4_keep_11 : decode cX4_keep 11 = .ok (.getfield 70, 3) := by decide +kernel
theorem dX4_keep_14 : decode cX4_keep 14 = .ok (.iload_n 1, 1) := by decide +kernel
theorem dX4_keep_15 : decode cX4_keep 15 = .ok (.aload_n 0, 1) := by decide +kernel
theorem dX4_keep_16 : decode cX4_keep 16 = .ok (.getfield 42, 3) := by decide +kernel
theorem dX4_keep_19 : decode cX4_keep 19 = .ok (.iload_n 1, 1) := by decide +kernel
theorem dX4_keep_20 : decode cX4_keep 20 = .ok (.laload, 1) := by decide +kernel
theorem dX4_keep_21 : decode cX4_keep 21 = .ok (.lastore, 1) := by decide +kernel
theorem dX4_keep_22 : decode cX4_keep 22 = .ok (.aload_n 0, 1) := by decide +kernel
theorem dX4_keep_23 : decode cX4_keep 23 = .ok (.getfield 73, 3) := by decide +kernel
theorem dX4_keep_26 : decode cX4_keep 26 = .ok (.iload_n 1, 1) := by decide +kernel
theorem dX4_keep_27 : decode cX4_keep 27 = .ok (.aload_n 0, 1) := by decide +kernel
theorem dX4_keep_28 : decode cX4_keep 28 = .ok (.getfield 46, 3) := by decide +kernel
theorem dX4_keep_31 : decode cX4_keep 31 = .ok (.iload_n 1, 1) := by decide +kernel
theorem dX4_keep_32 : decode cX4_keep 32 = .ok (.laload, 1) := by decide +kernel
theorem dX4_keep_33 : decode cX4_keep 33 = .ok (.lastore, 1) := by decide +kernel
theorem dX4_keep_34 : decode cX4_keep 34 = .ok (.aload_n 0, 1) := by decide +kernel
theorem dX4_keep_35 : decode cX4_keep 35 = .ok (.getfield 76, 3) := by decide +kernel
theorem dX4_keep_38 : decode cX4_keep 38 = .ok (.iload_n 1, 1) := by decide +kernel
theorem dX4_keep_39 : decode cX4_keep 39 = .ok (.aload_n 0, 1) := by decide +kernel
theorem dX4_keep_40 : decode cX4_keep 40 = .ok (.getfield 49, 3) := by decide +kernel
theorem dX4_keep_43 : decode cX4_keep 43 = .ok (.iload_n 1, 1) := by decide +kernel
theorem dX4_keep_44 : decode cX4_keep 44 = .ok (.baload, 1) := by decide +kernel
theorem dX4_keep_45 : decode cX4_keep 45 = .ok (.bastore, 1) := by decide +kernel
theorem dX4_keep_46 : decode cX4_keep 46 = .ok (.iinc 1 1, 3) := by decide +kernel
theorem dX4_keep_49 : decode cX4_keep 49 = .ok (.goto (-47), 3) := by decide +kernel
theorem dX4_keep_52 : decode cX4_keep 52 = .ok (.return_, 1) := by decide +kernel
theorem dX4_moved_0 : decode cX4_moved 0 = .ok (.aload_n 0, 1) := by decide +kernel
theorem dX4_moved_1 : decode cX4_moved 1 = .ok (.getfield 42, 3) := by decide +kernel
theorem dX4_moved_4 : decode cX4_moved 4 = .ok (.iload_n 1, 1) := by decide +kernel
theorem dX4_moved_5 : decode cX4_moved 5 = .ok (.laload, 1) := by decide +kernel
theorem dX4_moved_6 : decode cX4_moved 6 = .ok (.aload_n 0, 1) := by decide +kernel
theorem dX4_moved_7 : decode cX4_moved 7 = .ok (.getfield 70, 3) := by decide +kernel
theorem dX4_moved_10 : decode cX4_moved 10 = .ok (.iload_n 1, 1) := by decide +kernel
theorem dX4_moved_11 : decode cX4_moved 11 = .ok (.laload, 1) := by decide +kernel
theorem dX4_moved_12 : decode cX4_moved 12 = .ok (.invokestatic 176, 3) := by decide +kernel
theorem dX4_moved_15 : decode cX4_moved 15 = .ok (.lstore_n 2, 1) := by decide +kernel
theorem dX4_moved_16 : decode cX4_moved 16 = .ok (.aload_n 0, 1) := by decide +kernel
theorem dX4_moved_17 : decode cX4_moved 17 = .ok (.getfield 46, 3) := by decide +kernel
theorem dX4_moved_20 : decode cX4_moved 20 = .ok (.iload_n 1, 1) := by decide +kernel
theorem dX4_moved_21 : decode cX4_moved 21 = .ok (.laload, 1) := by decide +kernel
theorem dX4_moved_22 : decode cX4_moved 22 = .ok (.aload_n 0, 1) := by decide +kernel
theorem dX4_moved_23 : decode cX4_moved 23 = .ok (.getfield 73, 3) := by decide +kernel
theorem dX4_moved_26 : decode cX4_moved 26 = .ok (.iload_n 1, 1) := by decide +kernel
theorem dX4_moved_27 : decode cX4_moved 27 = .ok (.laload, 1) := by decide +kernel
theorem dX4_moved_28 : decode cX4_moved 28 = .ok (.invokestatic 176, 3) := by decide +kernel
theorem dX4_moved_31 : decode cX4_moved 31 = .ok (.lstore 4, 2) := by decide +kernel
theorem dX4_moved_33 : decode cX4_moved 33 = .ok (.aload_n 0, 1) := by decide +kernel
theorem dX4_moved_34 : decode cX4_moved 34 = .ok (.getfield 76, 3) := by decide +kernel
theorem dX4_moved_37 : decode cX4_moved 37 = .ok (.iload_n 1, 1) := by decide +kernel
theorem dX4_moved_38 : decode cX4_moved 38 = .ok (.baload, 1) := by decide +kernel
theorem dX4_moved_39 : decode cX4_moved 39 = .ok (.ifCond .ne 12, 3) := by decide +kernel
theorem dX4_moved_42 : decode cX4_moved 42 = .ok (.aload_n 0, 1) := by decide +kernel
theorem dX4_moved_43 : decode cX4_moved 43 = .ok (.getfield 49, 3) := by decide +kernel
theorem dX4_moved_46 : decode cX4_moved 46 = .ok (.iload_n 1, 1) := by decide +kernel
theorem dX4_moved_47 : decode cX4_moved 47 = .ok (.baload, 1) := by decide +kernel
theorem dX4_moved_48 : decode cX4_moved 48 = .ok (.ifCond .eq 9, 3) := by decide +kernel
theorem dX4_moved_51 : decode cX4_moved 51 = .ok (.ldc2_w 206, 3) := by decide +kernel
theorem dX4_moved_54 : decode cX4_moved 54 = .ok (.goto 16, 3) := by decide +kernel
theorem dX4_moved_57 : decode cX4_moved 57 = .ok (.lload_n 2, 1) := by decide +kernel
theorem dX4_moved_58 : decode cX4_moved 58 = .ok (.lload 4, 2) := by decide +kernel
theorem dX4_moved_60 : decode cX4_moved 60 = .ok (.lcmp, 1) := by decide +kernel
theorem dX4_moved_61 : decode cX4_moved 61 = .ok (.ifCond .le 7, 3) := by decide +kernel
theorem dX4_moved_64 : decode cX4_moved 64 = .ok (.lload_n 2, 1) := by decide +kernel
theorem dX4_moved_65 : decode cX4_moved 65 = .ok (.goto 5, 3) := by decide +kernel
theorem dX4_moved_68 : decode cX4_moved 68 = .ok (.lload 4, 2) := by decide +kernel
theorem dX4_moved_70 : decode cX4_moved 70 = .ok (.lreturn, 1) := by decide +kernel
theorem dX4_move_0 : decode cX4_move 0 = .ok (.aload_n 0, 1) := by decide +kernel
theorem dX4_move_1 : decode cX4_move 1 = .ok (.iload_n 1, 1) := by decide +kernel
theorem dX4_move_2 : decode cX4_move 2 = .ok (.invokevirtual 160, 3) := by decide +kernel
theorem dX4_move_5 : decode cX4_move 5 = .ok (.ifCond .eq 15, 3) := by decide +kernel
theorem dX4_move_8 : decode cX4_move 8 = .ok (.iload_n 2, 1) := by decide +kernel
theorem dX4_move_9 : decode cX4_move 9 = .ok (.i2l, 1) := by decide +kernel
theorem dX4_move_10 : decode cX4_move 10 = .ok (.lconst 0, 1) := by decide +kernel
theorem dX4_move_11 : decode cX4_move 11 = .ok (.ldc2_w 208, 3) := by decide +kernel
theorem dX4_move_14 : decode cX4_move 14 = .ok (.invokestatic 83, 3) := by decide +kernel
theorem dX4_move_17 : decode cX4_move 17 = .ok (.ifCond .ne 9, 3) := by decide +kernel
theorem dX4_move_20 : decode cX4_move 20 = .ok (.aload_n 0, 1) := by decide +kernel
theorem dX4_move_21 : decode cX4_move 21 = .ok (.iconst (-1), 1) := by decide +kernel
theorem dX4_move_22 : decode cX4_move 22 = .ok (.invokevirtual 173, 3) := by decide +kernel
theorem dX4_move_25 : decode cX4_move 25 = .ok (.ireturn, 1) := by decide +kernel
theorem dX4_move_26 : decode cX4_move 26 = .ok (.aload_n 0, 1) := by decide +kernel
theorem dX4_move_27 : decode cX4_move 27 = .ok (.iload_n 2, 1) := by decide +kernel
theorem dX4_move_28 : decode cX4_move 28 = .ok (.invokevirtual 155, 3) := by decide +kernel
theorem dX4_move_31 : decode cX4_move 31 = .ok (.aload_n 0, 1) := by decide +kernel
theorem dX4_move_32 : decode cX4_move 32 = .ok (.invokevirtual 210, 3) := by decide +kernel
theorem dX4_move_35 : decode cX4_move 35 = .ok (.aload_n 0, 1) := by decide +kernel
theorem dX4_move_36 : decode cX4_move 36 = .ok (.iload_n 2, 1) := by decide +kernel
theorem dX4_move_37 : decode cX4_move 37 = .ok (.iconst 1, 1) := by decide +kernel
theorem dX4_move_38 : decode cX4_move 38 = .ok (.iadd, 1) := by decide +kernel
theorem dX4_move_39 : decode cX4_move 39 = .ok (.invokevirtual 155, 3) := by decide +kernel
theorem dX4_move_42 : decode cX4_move 42 = .ok (.aload_n 0, 1) := by decide +kernel
theorem dX4_move_43 : decode cX4_move 43 = .ok (.iload_n 1, 1) := by decide +kernel
theorem dX4_move_44 : decode cX4_move 44 = .ok (.invokevirtual 213, 3) := by decide +kernel
theorem dX4_move_47 : decode cX4_move 47 = .ok (.l2i, 1) := by decide +kernel
theorem dX4_move_48 : decode cX4_move 48 = .ok (.ireturn, 1) := by decide +kernel
theorem dX4_greatest_0 : decode cX4_greatest 0 = .ok (.lconst 0, 1) := by decide +kernel
theorem dX4_greatest_1 : decode cX4_greatest 1 = .ok (.lstore_n 1, 1) := by decide +kernel
theorem dX4_greatest_2 : decode cX4_greatest 2 = .ok (.aload_n 0, 1) := by decide +kernel
theorem dX4_greatest_3 : decode cX4_greatest 3 = .ok (.iconst 0, 1) := by decide +kernel
theorem dX4_greatest_4 : decode cX4_greatest 4 = .ok (.invokevirtual 155, 3) := by decide +kernel
theorem dX4_greatest_7 : decode cX4_greatest 7 = .ok (.iconst 1, 1) := by decide +kernel
theorem dX4_greatest_8 : decode cX4_greatest 8 = .ok (.istore_n 3, 1) := by decide +kernel
theorem dX4_greatest_9 : decode cX4_greatest 9 = .ok (.iload_n 3, 1) := by decide +kernel
theorem dX4_greatest_10 : decode cX4_greatest 10 = .ok (.bipush 17, 2) := by decide +kernel
theorem dX4_greatest_12 : decode cX4_greatest 12 = .ok (.if_icmp .ge 58, 3) := by decide +kernel
theorem dX4_greatest_15 : decode cX4_greatest 15 = .ok (.aload_n 0, 1) := by decide +kernel
theorem dX4_greatest_16 : decode cX4_greatest 16 = .ok (.invokevirtual 210, 3) := by decide +kernel
theorem dX4_greatest_19 : decode cX4_greatest 19 = .ok (.aload_n 0, 1) := by decide +kernel
theorem dX4_greatest_20 : decode cX4_greatest 20 = .ok (.iload_n 3, 1) := by decide +kernel
theorem dX4_greatest_21 : decode cX4_greatest 21 = .ok (.invokevirtual 155, 3) := by decide +kernel
theorem dX4_greatest_24 : decode cX4_greatest 24 = .ok (.iconst 0, 1) := by decide +kernel
theorem dX4_greatest_25 : decode cX4_greatest 25 = .ok (.istore 4, 2) := by decide +kernel
theorem dX4_greatest_27 : decode cX4_greatest 27 = .ok (.iload 4, 2) := by decide +kernel
theorem dX4_greatest_29 : decode cX4_greatest 29 = .ok (.aload_n 0, 1) := by decide +kernel
theorem dX4_greatest_30 : decode cX4_greatest 30 = .ok (.getfield 80, 3) := by decide +kernel
theorem dX4_greatest_33 : decode cX4_greatest 33 = .ok (.if_icmp .ge 31, 3) := by decide +kernel
theorem dX4_greatest_36 : decode cX4_greatest 36 = .ok (.aload_n 0, 1) := by decide +kernel
theorem dX4_greatest_37 : decode cX4_greatest 37 = .ok (.iload 4, 2) := by decide +kernel
theorem dX4_greatest_39 : decode cX4_greatest 39 = .ok (.invokevirtual 213, 3) := by decide +kernel
theorem dX4_greatest_42 : decode cX4_greatest 42 = .ok (.lload_n 1, 1) := by decide +kernel
theorem dX4_greatest_43 : decode cX4_greatest 43 = .ok (.lcmp, 1) := by decide +kernel
theorem dX4_greatest_44 : decode cX4_greatest 44 = .ok (.ifCond .le 12, 3) := by decide +kernel
theorem dX4_greatest_47 : decode cX4_greatest 47 = .ok (.aload_n 0, 1) := by decide +kernel
theorem dX4_greatest_48 : decode cX4_greatest 48 = .ok (.iload 4, 2) := by decide +kernel
theorem dX4_greatest_50 : decode cX4_greatest 50 = .ok (.invokevirtual 213, 3) := by decide +kernel
theorem dX4_greatest_53 : decode cX4_greatest 53 = .ok (.goto 4, 3) := by decide +kernel
theorem dX4_greatest_56 : decode cX4_greatest 56 = .ok (.lload_n 1, 1) := by decide +kernel
theorem dX4_greatest_57 : decode cX4_greatest 57 = .ok (.lstore_n 1, 1) := by decide +kernel
theorem dX4_greatest_58 : decode cX4_greatest 58 = .ok (.iinc 4 1, 3) := by decide +kernel
theorem dX4_greatest_61 : decode cX4_greatest 61 = .ok (.goto (-34), 3) := by decide +kernel
theorem dX4_greatest_64 : decode cX4_greatest 64 = .ok (.iinc 3 1, 3) := by decide +kernel
theorem dX4_greatest_67 : decode cX4_greatest 67 = .ok (.goto (-58), 3) := by decide +kernel
theorem dX4_greatest_70 : decode cX4_greatest 70 = .ok (.lload_n 1, 1) := by decide +kernel
theorem dX4_greatest_71 : decode cX4_greatest 71 = .ok (.l2i, 1) := by decide +kernel
theorem dX4_greatest_72 : decode cX4_greatest 72 = .ok (.ireturn, 1) := by decide +kernel
theorem dX4_find_0 : decode cX4_find 0 = .ok (.aload_n 0, 1) := by decide +kernel
theorem dX4_find_1 : decode cX4_find 1 = .ok (.iload_n 1, 1) := by decide +kernel
theorem dX4_find_2 : decode cX4_find 2 = .ok (.invokevirtual 160, 3) := by decide +kernel
theorem dX4_find_5 : decode cX4_find 5 = .ok (.ifCond .eq 11, 3) := by decide +kernel
theorem dX4_find_8 : decode cX4_find 8 = .ok (.iload 4, 2) := by decide +kernel
theorem dX4_find_10 : decode cX4_find 10 = .ok (.invokestatic 170, 3) := by decide +kernel
theorem dX4_find_13 : decode cX4_find 13 = .ok (.ifCond .ne 9, 3) := by decide +kernel
theorem dX4_find_16 : decode cX4_find 16 = .ok (.aload_n 0, 1) := by decide +kernel
theorem dX4_find_17 : decode cX4_find 17 = .ok (.iconst (-1), 1) := by decide +kernel
theorem dX4_find_18 : decode cX4_find 18 = .ok (.invokevirtual 95, 3) := by decide +kernel
theorem dX4_find_21 : decode cX4_find 21 = .ok (.ireturn, 1) := by decide +kernel
theorem dX4_find_22 : decode cX4_find 22 = .ok (.iload_n 2, 1) := by decide +kernel
theorem dX4_find_23 : decode cX4_find 23 = .ok (.ifCond .eq 7, 3) := by decide +kernel
theorem dX4_find_26 : decode cX4_find 26 = .ok (.iconst 0, 1) := by decide +kernel
theorem dX4_find_27 : decode cX4_find 27 = .ok (.goto 4, 3) := by decide +kernel
theorem dX4_find_30 : decode cX4_find 30 = .ok (.iconst 1, 1) := by decide +kernel
theorem dX4_find_31 : decode cX4_find 31 = .ok (.istore 7, 2) := by decide +kernel
theorem dX4_find_33 : decode cX4_find 33 = .ok (.iload_n 3, 1) := by decide +kernel
theorem dX4_find_34 : decode cX4_find 34 = .ok (.ifCond .lt 8, 3) := by decide +kernel
theorem dX4_find_37 : decode cX4_find 37 = .ok (.iload 6, 2) := by decide +kernel
theorem dX4_find_39 : decode cX4_find 39 = .ok (.ifCond .ge 10, 3) := by decide +kernel
theorem dX4_find_42 : decode cX4_find 42 = .ok (.aload_n 0, 1) := by decide +kernel
theorem dX4_find_43 : decode cX4_find 43 = .ok (.bipush (-4), 2) := by decide +kernel
theorem dX4_find_45 : decode cX4_find 45 = .ok (.invokevirtual 95, 3) := by decide +kernel
theorem dX4_find_48 : decode cX4_find 48 = .ok (.ireturn, 1) := by decide +kernel
theorem dX4_find_49 : decode cX4_find 49 = .ok (.aload_n 0, 1) := by decide +kernel
theorem dX4_find_50 : decode cX4_find 50 = .ok (.aload_n 0, 1) := by decide +kernel
theorem dX4_find_51 : decode cX4_find 51 = .ok (.getfield 20, 3) := by decide +kernel
theorem dX4_find_54 : decode cX4_find 54 = .ok (.iconst 2, 1) := by decide +kernel
theorem dX4_find_55 : decode cX4_find 55 = .ok (.iload_n 1, 1) := by decide +kernel
theorem dX4_find_56 : decode cX4_find 56 = .ok (.imul, 1) := by decide +kernel
theorem dX4_find_57 : decode cX4_find 57 = .ok (.iload 7, 2) := by decide +kernel
theorem dX4_find_59 : decode cX4_find 59 = .ok (.iadd, 1) := by decide +kernel
theorem dX4_find_60 : decode cX4_find 60 = .ok (.iaload, 1) := by decide +kernel
theorem dX4_find_61 : decode cX4_find 61 = .ok (.invokevirtual 152, 3) := by decide +kernel
theorem dX4_find_64 : decode cX4_find 64 = .ok (.istore 8, 2) := by decide +kernel
theorem dX4_find_66 : decode cX4_find 66 = .ok (.iload_n 3, 1) := by decide +kernel
theorem dX4_find_67 : decode cX4_find 67 = .ok (.iload 8, 2) := by decide +kernel
theorem dX4_find_69 : decode cX4_find 69 = .ok (.if_icmp .le 10, 3) := by decide +kernel
theorem dX4_find_72 : decode cX4_find 72 = .ok (.aload_n 0, 1) := by decide +kernel
theorem dX4_find_73 : decode cX4_find 73 = .ok (.bipush (-6), 2) := by decide +kernel
theorem dX4_find_75 : decode cX4_find 75 = .ok (.invokevirtual 95, 3) := by decide +kernel
theorem dX4_find_78 : decode cX4_find 78 = .ok (.ireturn, 1) := by decide +kernel
theorem dX4_find_79 : decode cX4_find 79 = .ok (.aload_n 0, 1) := by decide +kernel
theorem dX4_find_80 : decode cX4_find 80 = .ok (.getfield 23, 3) := by decide +kernel
theorem dX4_find_83 : decode cX4_find 83 = .ok (.iconst 2, 1) := by decide +kernel
theorem dX4_find_84 : decode cX4_find 84 = .ok (.iload_n 1, 1) := by decide +kernel
theorem dX4_find_85 : decode cX4_find 85 = .ok (.imul, 1) := by decide +kernel
theorem dX4_find_86 : decode cX4_find 86 = .ok (.iload 7, 2) := by decide +kernel
theorem dX4_find_88 : decode cX4_find 88 = .ok (.iadd, 1) := by decide +kernel
theorem dX4_find_89 : decode cX4_find 89 = .ok (.iaload, 1) := by decide +kernel
theorem dX4_find_90 : decode cX4_find 90 = .ok (.istore 9, 2) := by decide +kernel
theorem dX4_find_92 : decode cX4_find 92 = .ok (.bipush (-9), 2) := by decide +kernel
theorem dX4_find_94 : decode cX4_find 94 = .ok (.istore 10, 2) := by decide +kernel
theorem dX4_find_96 : decode cX4_find 96 = .ok (.aload_n 0, 1) := by decide +kernel
theorem dX4_find_97 : decode cX4_find 97 = .ok (.iload 4, 2) := by decide +kernel
theorem dX4_find_99 : decode cX4_find 99 = .ok (.invokevirtual 155, 3) := by decide +kernel
theorem dX4_find_102 : decode cX4_find 102 = .ok (.aload_n 0, 1) := by decide +kernel
theorem dX4_find_103 : decode cX4_find 103 = .ok (.getfield 16, 3) := by decide +kernel
theorem dX4_find_106 : decode cX4_find 106 = .ok (.iload_n 1, 1) := by decide +kernel
theorem dX4_find_107 : decode cX4_find 107 = .ok (.iaload, 1) := by decide +kernel
theorem dX4_find_108 : decode cX4_find 108 = .ok (.iconst 1, 1) := by decide +kernel
theorem dX4_find_109 : decode cX4_find 109 = .ok (.if_icmp .ne 11, 3) := by decide +kernel
theorem dX4_find_112 : decode cX4_find 112 = .ok (.iload_n 3, 1) := by decide +kernel
theorem dX4_find_113 : decode cX4_find 113 = .ok (.ifCond .ne 7, 3) := by decide +kernel
theorem dX4_find_116 : decode cX4_find 116 = .ok (.iconst 1, 1) := by decide +kernel
theorem dX4_find_117 : decode cX4_find 117 = .ok (.goto 4, 3) := by decide +kernel
theorem dX4_find_120 : decode cX4_find 120 = .ok (.iload_n 3, 1) := by decide +kernel
theorem dX4_find_121 : decode cX4_find 121 = .ok (.istore 11, 2) := by decide +kernel
theorem dX4_find_123 : decode cX4_find 123 = .ok (.iload 11, 2) := by decide +kernel
theorem dX4_find_125 : decode cX4_find 125 = .ok (.iload 8, 2) := by decide +kernel
theorem dX4_find_127 : decode cX4_find 127 = .ok (.if_icmp .gt 67, 3) := by decide +kernel
theorem dX4_find_130 : decode cX4_find 130 = .ok (.iload 10, 2) := by decide +kernel
theorem dX4_find_132 : decode cX4_find 132 = .ok (.bipush (-9), 2) := by decide +kernel
theorem dX4_find_134 : decode cX4_find 134 = .ok (.if_icmp .ne 60, 3) := by decide +kernel
theorem dX4_find_137 : decode cX4_find 137 = .ok (.aload_n 0, 1) := by decide +kernel
theorem dX4_find_138 : decode cX4_find 138 = .ok (.iload_n 1, 1) := by decide +kernel
theorem dX4_find_139 : decode cX4_find 139 = .ok (.iload 7, 2) := by decide +kernel
theorem dX4_find_141 : decode cX4_find 141 = .ok (.iload 11, 2) := by decide +kernel
theorem dX4_find_143 : decode cX4_find 143 = .ok (.invokevirtual 166, 3) := by decide +kernel
theorem dX4_find_146 : decode cX4_find 146 = .ok (.aload_n 0, 1) := by decide +kernel
theorem dX4_find_147 : decode cX4_find 147 = .ok (.iload_n 1, 1) := by decide +kernel
theorem dX4_find_148 : decode cX4_find 148 = .ok (.invokevirtual 141, 3) := by decide +kernel
theorem dX4_find_151 : decode cX4_find 151 = .ok (.aload_n 0, 1) := by decide +kernel
theorem dX4_find_152 : decode cX4_find 152 = .ok (.getfield 49, 3) := by decide +kernel
theorem dX4_find_155 : decode cX4_find 155 = .ok (.iload_n 1, 1) := by decide +kernel
theorem dX4_find_156 : decode cX4_find 156 = .ok (.baload, 1) := by decide +kernel
theorem dX4_find_157 : decode cX4_find 157 = .ok (.ifCond .ne 27, 3) := by decide +kernel
theorem dX4_find_160 : decode cX4_find 160 = .ok (.aload_n 0, 1) := by decide +kernel
theorem dX4_find_161 : decode cX4_find 161 = .ok (.getfield 46, 3) := by decide +kernel
theorem dX4_find_164 : decode cX4_find 164 = .ok (.iload_n 1, 1) := by decide +kernel
theorem dX4_find_165 : decode cX4_find 165 = .ok (.laload, 1) := by decide +kernel
theorem dX4_find_166 : decode cX4_find 166 = .ok (.iload 5, 2) := by decide +kernel
theorem dX4_find_168 : decode cX4_find 168 = .ok (.i2l, 1) := by decide +kernel
theorem dX4_find_169 : decode cX4_find 169 = .ok (.invokestatic 176, 3) := by decide +kernel
theorem dX4_find_172 : decode cX4_find 172 = .ok (.iload 6, 2) := by decide +kernel
theorem dX4_find_174 : decode cX4_find 174 = .ok (.i2l, 1) := by decide +kernel
theorem dX4_find_175 : decode cX4_find 175 = .ok (.lcmp, 1) := by decide +kernel
theorem dX4_find_176 : decode cX4_find 176 = .ok (.ifCond .gt 8, 3) := by decide +kernel
theorem dX4_find_179 : decode cX4_find 179 = .ok (.iload 11, 2) := by decide +kernel
theorem dX4_find_181 : decode cX4_find 181 = .ok (.goto 5, 3) := by decide +kernel
theorem dX4_find_184 : decode cX4_find 184 = .ok (.iload 10, 2) := by decide +kernel
theorem dX4_find_186 : decode cX4_find 186 = .ok (.istore 10, 2) := by decide +kernel
theorem dX4_find_188 : decode cX4_find 188 = .ok (.iinc 11 1, 3) := by decide +kernel
theorem dX4_find_191 : decode cX4_find 191 = .ok (.goto (-68), 3) := by decide +kernel
theorem dX4_find_194 : decode cX4_find 194 = .ok (.aload_n 0, 1) := by decide +kernel
theorem dX4_find_195 : decode cX4_find 195 = .ok (.iload_n 1, 1) := by decide +kernel
theorem dX4_find_196 : decode cX4_find 196 = .ok (.iload 7, 2) := by decide +kernel
theorem dX4_find_198 : decode cX4_find 198 = .ok (.iload 9, 2) := by decide +kernel
theorem dX4_find_200 : decode cX4_find 200 = .ok (.invokevirtual 166, 3) := by decide +kernel
theorem dX4_find_203 : decode cX4_find 203 = .ok (.iload 10, 2) := by decide +kernel
theorem dX4_find_205 : decode cX4_find 205 = .ok (.ireturn, 1) := by decide +kernel
theorem dX4_even_0 : decode cX4_even 0 = .ok (.aload_n 0, 1) := by decide +kernel
theorem dX4_even_1 : decode cX4_even 1 = .ok (.iload_n 1, 1) := by decide +kernel
theorem dX4_even_2 : decode cX4_even 2 = .ok (.invokevirtual 160, 3) := by decide +kernel
theorem dX4_even_5 : decode cX4_even 5 = .ok (.ifCond .ne 5, 3) := by decide +kernel
theorem dX4_even_8 : decode cX4_even 8 = .ok (.iconst 0, 1) := by decide +kernel
theorem dX4_even_9 : decode cX4_even 9 = .ok (.ireturn, 1) := by decide +kernel
theorem dX4_even_10 : decode cX4_even 10 = .ok (.aload_n 0, 1) := by decide +kernel
theorem dX4_even_11 : decode cX4_even 11 = .ok (.bipush 8, 2) := by decide +kernel
theorem dX4_even_13 : decode cX4_even 13 = .ok (.invokevirtual 155, 3) := by decide +kernel
theorem dX4_even_16 : decode cX4_even 16 = .ok (.aload_n 0, 1) := by decide +kernel
theorem dX4_even_17 : decode cX4_even 17 = .ok (.getfield 49, 3) := by decide +kernel
theorem dX4_even_20 : decode cX4_even 20 = .ok (.iload_n 1, 1) := by decide +kernel
theorem dX4_even_21 : decode cX4_even 21 = .ok (.baload, 1) := by decide +kernel
theorem dX4_even_22 : decode cX4_even 22 = .ok (.ifCond .ne 31, 3) := by decide +kernel
theorem dX4_even_25 : decode cX4_even 25 = .ok (.aload_n 0, 1) := by decide +kernel
theorem dX4_even_26 : decode cX4_even 26 = .ok (.getfield 42, 3) := by decide +kernel
theorem dX4_even_29 : decode cX4_even 29 = .ok (.iload_n 1, 1) := by decide +kernel
theorem dX4_even_30 : decode cX4_even 30 = .ok (.laload, 1) := by decide +kernel
theorem dX4_even_31 : decode cX4_even 31 = .ok (.aload_n 0, 1) := by decide +kernel
theorem dX4_even_32 : decode cX4_even 32 = .ok (.getfield 46, 3) := by decide +kernel
theorem dX4_even_35 : decode cX4_even 35 = .ok (.iload_n 1, 1) := by decide +kernel
theorem dX4_even_36 : decode cX4_even 36 = .ok (.laload, 1) := by decide +kernel
theorem dX4_even_37 : decode cX4_even 37 = .ok (.invokestatic 176, 3) := by decide +kernel
theorem dX4_even_40 : decode cX4_even 40 = .ok (.aload_n 0, 1) := by decide +kernel
theorem dX4_even_41 : decode cX4_even 41 = .ok (.getfield 13, 3) := by decide +kernel
theorem dX4_even_44 : decode cX4_even 44 = .ok (.i2l, 1) := by decide +kernel
theorem dX4_even_45 : decode cX4_even 45 = .ok (.lcmp, 1) := by decide +kernel
theorem dX4_even_46 : decode cX4_even 46 = .ok (.ifCond .gt 7, 3) := by decide +kernel
theorem dX4_even_49 : decode cX4_even 49 = .ok (.iconst 1, 1) := by decide +kernel
theorem dX4_even_50 : decode cX4_even 50 = .ok (.goto 4, 3) := by decide +kernel
theorem dX4_even_53 : decode cX4_even 53 = .ok (.iconst 0, 1) := by decide +kernel
theorem dX4_even_54 : decode cX4_even 54 = .ok (.ireturn, 1) := by decide +kernel
theorem dX4_partOf_0 : decode cX4_partOf 0 = .ok (.iload_n 1, 1) := by decide +kernel
theorem dX4_partOf_1 : decode cX4_partOf 1 = .ok (.i2l, 1) := by decide +kernel
theorem dX4_partOf_2 : decode cX4_partOf 2 = .ok (.lconst 0, 1) := by decide +kernel
theorem dX4_partOf_3 : decode cX4_partOf 3 = .ok (.aload_n 0, 1) := by decide +kernel
theorem dX4_partOf_4 : decode cX4_partOf 4 = .ok (.getfield 80, 3) := by decide +kernel
theorem dX4_partOf_7 : decode cX4_partOf 7 = .ok (.iconst 1, 1) := by decide +kernel
theorem dX4_partOf_8 : decode cX4_partOf 8 = .ok (.isub, 1) := by decide +kernel
theorem dX4_partOf_9 : decode cX4_partOf 9 = .ok (.i2l, 1) := by decide +kernel
theorem dX4_partOf_10 : decode cX4_partOf 10 = .ok (.invokestatic 83, 3) := by decide +kernel
theorem dX4_partOf_13 : decode cX4_partOf 13 = .ok (.ifCond .ne 9, 3) := by decide +kernel
theorem dX4_partOf_16 : decode cX4_partOf 16 = .ok (.aload_n 0, 1) := by decide +kernel
theorem dX4_partOf_17 : decode cX4_partOf 17 = .ok (.iconst (-1), 1) := by decide +kernel
theorem dX4_partOf_18 : decode cX4_partOf 18 = .ok (.invokevirtual 95, 3) := by decide +kernel
theorem dX4_partOf_21 : decode cX4_partOf 21 = .ok (.ireturn, 1) := by decide +kernel
theorem dX4_partOf_22 : decode cX4_partOf 22 = .ok (.iload_n 2, 1) := by decide +kernel
theorem dX4_partOf_23 : decode cX4_partOf 23 = .ok (.tableswitch 156 0 9 #[53, 60, 69, 78, 89, 100, 109, 120, 135, 150], 53) := by decide +kernel
theorem dX4_partOf_76 : decode cX4_partOf 76 = .ok (.aload_n 0, 1) := by decide +kernel
theorem dX4_partOf_77 : decode cX4_partOf 77 = .ok (.getfield 16, 3) := by decide +kernel
theorem dX4_partOf_80 : decode cX4_partOf 80 = .ok (.iload_n 1, 1) := by decide +kernel
theorem dX4_partOf_81 : decode cX4_partOf 81 = .ok (.iaload, 1) := by decide +kernel
theorem dX4_partOf_82 : decode cX4_partOf 82 = .ok (.ireturn, 1) := by decide +kernel
theorem dX4_partOf_83 : decode cX4_partOf 83 = .ok (.aload_n 0, 1) := by decide +kernel
theorem dX4_partOf_84 : decode cX4_partOf 84 = .ok (.getfield 20, 3) := by decide +kernel
theorem dX4_partOf_87 : decode cX4_partOf 87 = .ok (.iconst 2, 1) := by decide +kernel
theorem dX4_partOf_88 : decode cX4_partOf 88 = .ok (.iload_n 1, 1) := by decide +kernel
theorem dX4_partOf_89 : decode cX4_partOf 89 = .ok (.imul, 1) := by decide +kernel
theorem dX4_partOf_90 : decode cX4_partOf 90 = .ok (.iaload, 1) := by decide +kernel
theorem dX4_partOf_91 : decode cX4_partOf 91 = .ok (.ireturn, 1) := by decide +kernel
theorem dX4_partOf_92 : decode cX4_partOf 92 = .ok (.aload_n 0, 1) := by decide +kernel
theorem dX4_partOf_93 : decode cX4_partOf 93 = .ok (.getfield 23, 3) := by decide +kernel
theorem dX4_partOf_96 : decode cX4_partOf 96 = .ok (.iconst 2, 1) := by decide +kernel
theorem dX4_partOf_97 : decode cX4_partOf 97 = .ok (.iload_n 1, 1) := by decide +kernel
theorem dX4_partOf_98 : decode cX4_partOf 98 = .ok (.imul, 1) := by decide +kernel
theorem dX4_partOf_99 : decode cX4_partOf 99 = .ok (.iaload, 1) := by decide +kernel
theorem dX4_partOf_100 : decode cX4_partOf 100 = .ok (.ireturn, 1) := by decide +kernel
theorem dX4_partOf_101 : decode cX4_partOf 101 = .ok (.aload_n 0, 1) := by decide +kernel
theorem dX4_partOf_102 : decode cX4_partOf 102 = .ok (.getfield 20, 3) := by decide +kernel
theorem dX4_partOf_105 : decode cX4_partOf 105 = .ok (.iconst 2, 1) := by decide +kernel
theorem dX4_partOf_106 : decode cX4_partOf 106 = .ok (.iload_n 1, 1) := by decide +kernel
theorem dX4_partOf_107 : decode cX4_partOf 107 = .ok (.imul, 1) := by decide +kernel
theorem dX4_partOf_108 : decode cX4_partOf 108 = .ok (.iconst 1, 1) := by decide +kernel
theorem dX4_partOf_109 : decode cX4_partOf 109 = .ok (.iadd, 1) := by decide +kernel
theorem dX4_partOf_110 : decode cX4_partOf 110 = .ok (.iaload, 1) := by decide +kernel
theorem dX4_partOf_111 : decode cX4_partOf 111 = .ok (.ireturn, 1) := by decide +kernel
theorem dX4_partOf_112 : decode cX4_partOf 112 = .ok (.aload_n 0, 1) := by decide +kernel
theorem dX4_partOf_113 : decode cX4_partOf 113 = .ok (.getfield 23, 3) := by decide +kernel
theorem dX4_partOf_116 : decode cX4_partOf 116 = .ok (.iconst 2, 1) := by decide +kernel
theorem dX4_partOf_117 : decode cX4_partOf 117 = .ok (.iload_n 1, 1) := by decide +kernel
theorem dX4_partOf_118 : decode cX4_partOf 118 = .ok (.imul, 1) := by decide +kernel
theorem dX4_partOf_119 : decode cX4_partOf 119 = .ok (.iconst 1, 1) := by decide +kernel
theorem dX4_partOf_120 : decode cX4_partOf 120 = .ok (.iadd, 1) := by decide +kernel
theorem dX4_partOf_121 : decode cX4_partOf 121 = .ok (.iaload, 1) := by decide +kernel
theorem dX4_partOf_122 : decode cX4_partOf 122 = .ok (.ireturn, 1) := by decide +kernel
theorem dX4_partOf_123 : decode cX4_partOf 123 = .ok (.aload_n 0, 1) := by decide +kernel
theorem dX4_partOf_124 : decode cX4_partOf 124 = .ok (.getfield 26, 3) := by decide +kernel
theorem dX4_partOf_127 : decode cX4_partOf 127 = .ok (.iconst 2, 1) := by decide +kernel
theorem dX4_partOf_128 : decode cX4_partOf 128 = .ok (.iload_n 1, 1) := by decide +kernel
theorem dX4_partOf_129 : decode cX4_partOf 129 = .ok (.imul, 1) := by decide +kernel
theorem dX4_partOf_130 : decode cX4_partOf 130 = .ok (.iaload, 1) := by decide +kernel
theorem dX4_partOf_131 : decode cX4_partOf 131 = .ok (.ireturn, 1) := by decide +kernel
theorem dX4_partOf_132 : decode cX4_partOf 132 = .ok (.aload_n 0, 1) := by decide +kernel
theorem dX4_partOf_133 : decode cX4_partOf 133 = .ok (.getfield 26, 3) := by decide +kernel
theorem dX4_partOf_136 : decode cX4_partOf 136 = .ok (.iconst 2, 1) := by decide +kernel
theorem dX4_partOf_137 : decode cX4_partOf 137 = .ok (.iload_n 1, 1) := by decide +kernel
theorem dX4_partOf_138 : decode cX4_partOf 138 = .ok (.imul, 1) := by decide +kernel
theorem dX4_partOf_139 : decode cX4_partOf 139 = .ok (.iconst 1, 1) := by decide +kernel
theorem dX4_partOf_140 : decode cX4_partOf 140 = .ok (.iadd, 1) := by decide +kernel
theorem dX4_partOf_141 : decode cX4_partOf 141 = .ok (.iaload, 1) := by decide +kernel
theorem dX4_partOf_142 : decode cX4_partOf 142 = .ok (.ireturn, 1) := by decide +kernel
theorem dX4_partOf_143 : decode cX4_partOf 143 = .ok (.aload_n 0, 1) := by decide +kernel
theorem dX4_partOf_144 : decode cX4_partOf 144 = .ok (.getfield 29, 3) := by decide +kernel
theorem dX4_partOf_147 : decode cX4_partOf 147 = .ok (.iload_n 1, 1) := by decide +kernel
theorem dX4_partOf_148 : decode cX4_partOf 148 = .ok (.baload, 1) := by decide +kernel
theorem dX4_partOf_149 : decode cX4_partOf 149 = .ok (.ifCond .eq 7, 3) := by decide +kernel
theorem dX4_partOf_152 : decode cX4_partOf 152 = .ok (.iconst 1, 1) := by decide +kernel
theorem dX4_partOf_153 : decode cX4_partOf 153 = .ok (.goto 4, 3) := by decide +kernel
theorem dX4_partOf_156 : decode cX4_partOf 156 = .ok (.iconst 0, 1) := by decide +kernel
theorem dX4_partOf_157 : decode cX4_partOf 157 = .ok (.ireturn, 1) := by decide +kernel
theorem dX4_partOf_158 : decode cX4_partOf 158 = .ok (.aload_n 0, 1) := by decide +kernel
theorem dX4_partOf_159 : decode cX4_partOf 159 = .ok (.getfield 33, 3) := by decide +kernel
theorem dX4_partOf_162 : decode cX4_partOf 162 = .ok (.iload_n 1, 1) := by decide +kernel
theorem dX4_partOf_163 : decode cX4_partOf 163 = .ok (.baload, 1) := by decide +kernel
theorem dX4_partOf_164 : decode cX4_partOf 164 = .ok (.ifCond .eq 7, 3) := by decide +kernel
theorem dX4_partOf_167 : decode cX4_partOf 167 = .ok (.iconst 1, 1) := by decide +kernel
theorem dX4_partOf_168 : decode cX4_partOf 168 = .ok (.goto 4, 3) := by decide +kernel
theorem dX4_partOf_171 : decode cX4_partOf 171 = .ok (.iconst 0, 1) := by decide +kernel
theorem dX4_partOf_172 : decode cX4_partOf 172 = .ok (.ireturn, 1) := by decide +kernel
theorem dX4_partOf_173 : decode cX4_partOf 173 = .ok (.aload_n 0, 1) := by decide +kernel
theorem dX4_partOf_174 : decode cX4_partOf 174 = .ok (.iload_n 1, 1) := by decide +kernel
theorem dX4_partOf_175 : decode cX4_partOf 175 = .ok (.invokevirtual 163, 3) := by decide +kernel
theorem dX4_partOf_178 : decode cX4_partOf 178 = .ok (.ireturn, 1) := by decide +kernel
theorem dX4_partOf_179 : decode cX4_partOf 179 = .ok (.aload_n 0, 1) := by decide +kernel
theorem dX4_partOf_180 : decode cX4_partOf 180 = .ok (.bipush (-2), 2) := by decide +kernel
theorem dX4_partOf_182 : decode cX4_partOf 182 = .ok (.invokevirtual 95, 3) := by decide +kernel
theorem dX4_partOf_185 : decode cX4_partOf 185 = .ok (.ireturn, 1) := by decide +kernel
theorem dX4_count_0 : decode cX4_count 0 = .ok (.iconst 0, 1) := by decide +kernel
theorem dX4_count_1 : decode cX4_count 1 = .ok (.istore_n 2, 1) := by decide +kernel
theorem dX4_count_2 : decode cX4_count 2 = .ok (.iload_n 1, 1) := by decide +kernel
theorem dX4_count_3 : decode cX4_count 3 = .ok (.tableswitch 105 0 4 #[33, 38, 43, 48, 62], 33) := by decide +kernel
theorem dX4_count_36 : decode cX4_count 36 = .ok (.aload_n 0, 1) := by decide +kernel
theorem dX4_count_37 : decode cX4_count 37 = .ok (.getfield 7, 3) := by decide +kernel
theorem dX4_count_40 : decode cX4_count 40 = .ok (.ireturn, 1) := by decide +kernel
theorem dX4_count_41 : decode cX4_count 41 = .ok (.aload_n 0, 1) := by decide +kernel
theorem dX4_count_42 : decode cX4_count 42 = .ok (.getfield 80, 3) := by decide +kernel
theorem dX4_count_45 : decode cX4_count 45 = .ok (.ireturn, 1) := by decide +kernel
theorem dX4_count_46 : decode cX4_count 46 = .ok (.aload_n 0, 1) := by decide +kernel
theorem dX4_count_47 : decode cX4_count 47 = .ok (.invokevirtual 91, 3) := by decide +kernel
theorem dX4_count_50 : decode cX4_count 50 = .ok (.ireturn, 1) := by decide +kernel
theorem dX4_count_51 : decode cX4_count 51 = .ok (.aload_n 0, 1) := by decide +kernel
theorem dX4_count_52 : decode cX4_count 52 = .ok (.iconst 0, 1) := by decide +kernel
theorem dX4_count_53 : decode cX4_count 53 = .ok (.invokevirtual 186, 3) := by decide +kernel
theorem dX4_count_56 : decode cX4_count 56 = .ok (.ifCond .ne 7, 3) := by decide +kernel
theorem dX4_count_59 : decode cX4_count 59 = .ok (.iconst 1, 1) := by decide +kernel
theorem dX4_count_60 : decode cX4_count 60 = .ok (.goto 4, 3) := by decide +kernel
theorem dX4_count_63 : decode cX4_count 63 = .ok (.iconst 0, 1) := by decide +kernel
theorem dX4_count_64 : decode cX4_count 64 = .ok (.ireturn, 1) := by decide +kernel
theorem dX4_count_65 : decode cX4_count 65 = .ok (.iconst 0, 1) := by decide +kernel
theorem dX4_count_66 : decode cX4_count 66 = .ok (.istore_n 3, 1) := by decide +kernel
theorem dX4_count_67 : decode cX4_count 67 = .ok (.iload_n 3, 1) := by decide +kernel
theorem dX4_count_68 : decode cX4_count 68 = .ok (.aload_n 0, 1) := by decide +kernel
theorem dX4_count_69 : decode cX4_count 69 = .ok (.getfield 80, 3) := by decide +kernel
theorem dX4_count_72 : decode cX4_count 72 = .ok (.if_icmp .ge 34, 3) := by decide +kernel
theorem dX4_count_75 : decode cX4_count 75 = .ok (.iload_n 2, 1) := by decide +kernel
theorem dX4_count_76 : decode cX4_count 76 = .ok (.aload_n 0, 1) := by decide +kernel
theorem dX4_count_77 : decode cX4_count 77 = .ok (.getfield 33, 3) := by decide +kernel
theorem dX4_count_80 : decode cX4_count 80 = .ok (.iload_n 3, 1) := by decide +kernel
theorem dX4_count_81 : decode cX4_count 81 = .ok (.baload, 1) := by decide +kernel
theorem dX4_count_82 : decode cX4_count 82 = .ok (.ifCond .eq 15, 3) := by decide +kernel
theorem dX4_count_85 : decode cX4_count 85 = .ok (.aload_n 0, 1) := by decide +kernel
theorem dX4_count_86 : decode cX4_count 86 = .ok (.iload_n 3, 1) := by decide +kernel
theorem dX4_count_87 : decode cX4_count 87 = .ok (.invokevirtual 183, 3) := by decide +kernel
theorem dX4_count_90 : decode cX4_count 90 = .ok (.ifCond .lt 7, 3) := by decide +kernel
theorem dX4_count_93 : decode cX4_count 93 = .ok (.iconst 1, 1) := by decide +kernel
theorem dX4_count_94 : decode cX4_count 94 = .ok (.goto 4, 3) := by decide +kernel
theorem dX4_count_97 : decode cX4_count 97 = .ok (.iconst 0, 1) := by decide +kernel
theorem dX4_count_98 : decode cX4_count 98 = .ok (.iadd, 1) := by decide +kernel
theorem dX4_count_99 : decode cX4_count 99 = .ok (.istore_n 2, 1) := by decide +kernel
theorem dX4_count_100 : decode cX4_count 100 = .ok (.iinc 3 1, 3) := by decide +kernel
theorem dX4_count_103 : decode cX4_count 103 = .ok (.goto (-36), 3) := by decide +kernel
theorem dX4_count_106 : decode cX4_count 106 = .ok (.iload_n 2, 1) := by decide +kernel
theorem dX4_count_107 : decode cX4_count 107 = .ok (.ireturn, 1) := by decide +kernel
theorem dX4_count_108 : decode cX4_count 108 = .ok (.iload_n 1, 1) := by decide +kernel
theorem dX4_count_109 : decode cX4_count 109 = .ok (.i2l, 1) := by decide +kernel
theorem dX4_count_110 : decode cX4_count 110 = .ok (.ldc2_w 217, 3) := by decide +kernel
theorem dX4_count_113 : decode cX4_count 113 = .ok (.ldc2_w 89, 3) := by decide +kernel
theorem dX4_count_116 : decode cX4_count 116 = .ok (.invokestatic 83, 3) := by decide +kernel
theorem dX4_count_119 : decode cX4_count 119 = .ok (.ifCond .eq 15, 3) := by decide +kernel
theorem dX4_count_122 : decode cX4_count 122 = .ok (.aload_n 0, 1) := by decide +kernel
theorem dX4_count_123 : decode cX4_count 123 = .ok (.getfield 36, 3) := by decide +kernel
theorem dX4_count_126 : decode cX4_count 126 = .ok (.iload_n 1, 1) := by decide +kernel
theorem dX4_count_127 : decode cX4_count 127 = .ok (.bipush 10, 2) := by decide +kernel
theorem dX4_count_129 : decode cX4_count 129 = .ok (.isub, 1) := by decide +kernel
theorem dX4_count_130 : decode cX4_count 130 = .ok (.iaload, 1) := by decide +kernel
theorem dX4_count_131 : decode cX4_count 131 = .ok (.goto 5, 3) := by decide +kernel
theorem dX4_count_134 : decode cX4_count 134 = .ok (.bipush (-9), 2) := by decide +kernel
theorem dX4_count_136 : decode cX4_count 136 = .ok (.ireturn, 1) := by decide +kernel
theorem dJ9_floorDiv_f86c9_0 : decode cJ9_floorDiv_f86c9 0 = .ok (.lload_n 0, 1) := by decide +kernel
theorem dJ9_floorDiv_f86c9_1 : decode cJ9_floorDiv_f86c9 1 = .ok (.lload_n 2, 1) := by decide +kernel
theorem dJ9_floorDiv_f86c9_2 : decode cJ9_floorDiv_f86c9 2 = .ok (.ldiv, 1) := by decide +kernel
theorem dJ9_floorDiv_f86c9_3 : decode cJ9_floorDiv_f86c9 3 = .ok (.lstore 4, 2) := by decide +kernel
theorem dJ9_floorDiv_f86c9_5 : decode cJ9_floorDiv_f86c9 5 = .ok (.lload_n 0, 1) := by decide +kernel
theorem dJ9_floorDiv_f86c9_6 : decode cJ9_floorDiv_f86c9 6 = .ok (.lload_n 2, 1) := by decide +kernel
theorem dJ9_floorDiv_f86c9_7 : decode cJ9_floorDiv_f86c9 7 = .ok (.lxor, 1) := by decide +kernel
theorem dJ9_floorDiv_f86c9_8 : decode cJ9_floorDiv_f86c9 8 = .ok (.lconst 0, 1) := by decide +kernel
theorem dJ9_floorDiv_f86c9_9 : decode cJ9_floorDiv_f86c9 9 = .ok (.lcmp, 1) := by decide +kernel
theorem dJ9_floorDiv_f86c9_10 : decode cJ9_floorDiv_f86c9 10 = .ok (.ifCond .ge 17, 3) := by decide +kernel
theorem dJ9_floorDiv_f86c9_13 : decode cJ9_floorDiv_f86c9 13 = .ok (.lload 4, 2) := by decide +kernel
theorem dJ9_floorDiv_f86c9_15 : decode cJ9_floorDiv_f86c9 15 = .ok (.lload_n 2, 1) := by decide +kernel
theorem dJ9_floorDiv_f86c9_16 : decode cJ9_floorDiv_f86c9 16 = .ok (.lmul, 1) := by decide +kernel
theorem dJ9_floorDiv_f86c9_17 : decode cJ9_floorDiv_f86c9 17 = .ok (.lload_n 0, 1) := by decide +kernel
theorem dJ9_floorDiv_f86c9_18 : decode cJ9_floorDiv_f86c9 18 = .ok (.lcmp, 1) := by decide +kernel
theorem dJ9_floorDiv_f86c9_19 : decode cJ9_floorDiv_f86c9 19 = .ok (.ifCond .eq 8, 3) := by decide +kernel
theorem dJ9_floorDiv_f86c9_22 : decode cJ9_floorDiv_f86c9 22 = .ok (.lload 4, 2) := by decide +kernel
theorem dJ9_floorDiv_f86c9_24 : decode cJ9_floorDiv_f86c9 24 = .ok (.lconst 1, 1) := by decide +kernel
theorem dJ9_floorDiv_f86c9_25 : decode cJ9_floorDiv_f86c9 25 = .ok (.lsub, 1) := by decide +kernel
theorem dJ9_floorDiv_f86c9_26 : decode cJ9_floorDiv_f86c9 26 = .ok (.lreturn, 1) := by decide +kernel
theorem dJ9_floorDiv_f86c9_27 : decode cJ9_floorDiv_f86c9 27 = .ok (.lload 4, 2) := by decide +kernel
theorem dJ9_floorDiv_f86c9_29 : decode cJ9_floorDiv_f86c9 29 = .ok (.lreturn, 1) := by decide +kernel
theorem dJ9_abs_0f7a4_0 : decode cJ9_abs_0f7a4 0 = .ok (.iload_n 0, 1) := by decide +kernel
theorem dJ9_abs_0f7a4_1 : decode cJ9_abs_0f7a4 1 = .ok (.ifCond .ge 8, 3) := by decide +kernel
theorem dJ9_abs_0f7a4_4 : decode cJ9_abs_0f7a4 4 = .ok (.iload_n 0, 1) := by decide +kernel
theorem dJ9_abs_0f7a4_5 : decode cJ9_abs_0f7a4 5 = .ok (.ineg, 1) := by decide +kernel
theorem dJ9_abs_0f7a4_6 : decode cJ9_abs_0f7a4 6 = .ok (.goto 4, 3) := by decide +kernel
theorem dJ9_abs_0f7a4_9 : decode cJ9_abs_0f7a4 9 = .ok (.iload_n 0, 1) := by decide +kernel
theorem dJ9_abs_0f7a4_10 : decode cJ9_abs_0f7a4 10 = .ok (.ireturn, 1) := by decide +kernel
theorem dJ9_abs_067f4_0 : decode cJ9_abs_067f4 0 = .ok (.lload_n 0, 1) := by decide +kernel
theorem dJ9_abs_067f4_1 : decode cJ9_abs_067f4 1 = .ok (.lconst 0, 1) := by decide +kernel
theorem dJ9_abs_067f4_2 : decode cJ9_abs_067f4 2 = .ok (.lcmp, 1) := by decide +kernel
theorem dJ9_abs_067f4_3 : decode cJ9_abs_067f4 3 = .ok (.ifCond .ge 8, 3) := by decide +kernel
theorem dJ9_abs_067f4_6 : decode cJ9_abs_067f4 6 = .ok (.lload_n 0, 1) := by decide +kernel
theorem dJ9_abs_067f4_7 : decode cJ9_abs_067f4 7 = .ok (.lneg, 1) := by decide +kernel
theorem dJ9_abs_067f4_8 : decode cJ9_abs_067f4 8 = .ok (.goto 4, 3) := by decide +kernel
theorem dJ9_abs_067f4_11 : decode cJ9_abs_067f4 11 = .ok (.lload_n 0, 1) := by decide +kernel
theorem dJ9_abs_067f4_12 : decode cJ9_abs_067f4 12 = .ok (.lreturn, 1) := by decide +kernel
theorem dJ9_max_7cf53_0 : decode cJ9_max_7cf53 0 = .ok (.iload_n 0, 1) := by decide +kernel
theorem dJ9_max_7cf53_1 : decode cJ9_max_7cf53 1 = .ok (.iload_n 1, 1) := by decide +kernel
theorem dJ9_max_7cf53_2 : decode cJ9_max_7cf53 2 = .ok (.if_icmp .lt 7, 3) := by decide +kernel
theorem dJ9_max_7cf53_5 : decode cJ9_max_7cf53 5 = .ok (.iload_n 0, 1) := by decide +kernel
theorem dJ9_max_7cf53_6 : decode cJ9_max_7cf53 6 = .ok (.goto 4, 3) := by decide +kernel
theorem dJ9_max_7cf53_9 : decode cJ9_max_7cf53 9 = .ok (.iload_n 1, 1) := by decide +kernel
theorem dJ9_max_7cf53_10 : decode cJ9_max_7cf53 10 = .ok (.ireturn, 1) := by decide +kernel
theorem dJ9_max_f86c9_0 : decode cJ9_max_f86c9 0 = .ok (.lload_n 0, 1) := by decide +kernel
theorem dJ9_max_f86c9_1 : decode cJ9_max_f86c9 1 = .ok (.lload_n 2, 1) := by decide +kernel
theorem dJ9_max_f86c9_2 : decode cJ9_max_f86c9 2 = .ok (.lcmp, 1) := by decide +kernel
theorem dJ9_max_f86c9_3 : decode cJ9_max_f86c9 3 = .ok (.ifCond .lt 7, 3) := by decide +kernel
theorem dJ9_max_f86c9_6 : decode cJ9_max_f86c9 6 = .ok (.lload_n 0, 1) := by decide +kernel
theorem dJ9_max_f86c9_7 : decode cJ9_max_f86c9 7 = .ok (.goto 4, 3) := by decide +kernel
theorem dJ9_max_f86c9_10 : decode cJ9_max_f86c9 10 = .ok (.lload_n 2, 1) := by decide +kernel
theorem dJ9_max_f86c9_11 : decode cJ9_max_f86c9 11 = .ok (.lreturn, 1) := by decide +kernel
theorem dL_law_0 : decode cL_law 0 = .ok (.new 7, 3) := by decide +kernel
theorem dL_law_3 : decode cL_law 3 = .ok (.dup, 1) := by decide +kernel
theorem dL_law_4 : decode cL_law 4 = .ok (.invokespecial 9, 3) := by decide +kernel
theorem dL_law_7 : decode cL_law 7 = .ok (.astore_n 1, 1) := by decide +kernel
theorem dL_law_8 : decode cL_law 8 = .ok (.new 10, 3) := by decide +kernel
theorem dL_law_11 : decode cL_law 11 = .ok (.dup, 1) := by decide +kernel
theorem dL_law_12 : decode cL_law 12 = .ok (.invokespecial 12, 3) := by decide +kernel
theorem dL_law_15 : decode cL_law 15 = .ok (.astore_n 2, 1) := by decide +kernel
theorem dL_law_16 : decode cL_law 16 = .ok (.iconst 0, 1) := by decide +kernel
theorem dL_law_17 : decode cL_law 17 = .ok (.istore_n 3, 1) := by decide +kernel
theorem dL_law_18 : decode cL_law 18 = .ok (.iload_n 3, 1) := by decide +kernel
theorem dL_law_19 : decode cL_law 19 = .ok (.aload_n 0, 1) := by decide +kernel
theorem dL_law_20 : decode cL_law 20 = .ok (.arraylength, 1) := by decide +kernel
theorem dL_law_21 : decode cL_law 21 = .ok (.bipush 9, 2) := by decide +kernel
theorem dL_law_23 : decode cL_law 23 = .ok (.isub, 1) := by decide +kernel
theorem dL_law_24 : decode cL_law 24 = .ok (.if_icmp .gt 829, 3) := by decide +kernel
theorem dL_law_27 : decode cL_law 27 = .ok (.aload_n 0, 1) := by decide +kernel
theorem dL_law_28 : decode cL_law 28 = .ok (.iload_n 3, 1) := by decide +kernel
theorem dL_law_29 : decode cL_law 29 = .ok (.iaload, 1) := by decide +kernel
theorem dL_law_30 : decode cL_law 30 = .ok (.bipush 31, 2) := by decide +kernel
theorem dL_law_32 : decode cL_law 32 = .ok (.iand, 1) := by decide +kernel
theorem dL_law_33 : decode cL_law 33 = .ok (.tableswitch 814 0 18 #[91, 114, 137, 252, 275, 334, 377, 430, 463, 486, 509, 552, 575, 598, 631, 644, 735, 758, 791], 91) := by decide +kernel
theorem dL_law_124 : decode cL_law 124 = .ok (.aload_n 1, 1) := by decide +kernel
theorem dL_law_125 : decode cL_law 125 = .ok (.aload_n 0, 1) := by decide +kernel
theorem dL_law_126 : decode cL_law 126 = .ok (.iload_n 3, 1) := by decide +kernel
theorem dL_law_127 : decode cL_law 127 = .ok (.iconst 1, 1) := by decide +kernel
theorem dL_law_128 : decode cL_law 128 = .ok (.iadd, 1) := by decide +kernel
theorem dL_law_129 : decode cL_law 129 = .ok (.iaload, 1) := by decide +kernel
theorem dL_law_130 : decode cL_law 130 = .ok (.invokevirtual 13, 3) := by decide +kernel
theorem dL_law_133 : decode cL_law 133 = .ok (.aload_n 2, 1) := by decide +kernel
theorem dL_law_134 : decode cL_law 134 = .ok (.aload_n 0, 1) := by decide +kernel
theorem dL_law_135 : decode cL_law 135 = .ok (.iload_n 3, 1) := by decide +kernel
theorem dL_law_136 : decode cL_law 136 = .ok (.iconst 1, 1) := by decide +kernel
theorem dL_law_137 : decode cL_law 137 = .ok (.iadd, 1) := by decide +kernel
theorem dL_law_138 : decode cL_law 138 = .ok (.iaload, 1) := by decide +kernel
theorem dL_law_139 : decode cL_law 139 = .ok (.invokevirtual 17, 3) := by decide +kernel
theorem dL_law_142 : decode cL_law 142 = .ok (.if_icmp .eq 705, 3) := by decide +kernel
theorem dL_law_145 : decode cL_law 145 = .ok (.iconst 0, 1) := by decide +kernel
theorem dL_law_146 : decode cL_law 146 = .ok (.ireturn, 1) := by decide +kernel
theorem dL_law_147 : decode cL_law 147 = .ok (.aload_n 1, 1) := by decide +kernel
theorem dL_law_148 : decode cL_law 148 = .ok (.aload_n 0, 1) := by decide +kernel
theorem dL_law_149 : decode cL_law 149 = .ok (.iload_n 3, 1) := by decide +kernel
theorem dL_law_150 : decode cL_law 150 = .ok (.iconst 1, 1) := by decide +kernel
theorem dL_law_151 : decode cL_law 151 = .ok (.iadd, 1) := by decide +kernel
theorem dL_law_152 : decode cL_law 152 = .ok (.iaload, 1) := by decide +kernel
theorem dL_law_153 : decode cL_law 153 = .ok (.invokevirtual 18, 3) := by decide +kernel
theorem dL_law_156 : decode cL_law 156 = .ok (.aload_n 2, 1) := by decide +kernel
theorem dL_law_157 : decode cL_law 157 = .ok (.aload_n 0, 1) := by decide +kernel
theorem dL_law_158 : decode cL_law 158 = .ok (.iload_n 3, 1) := by decide +kernel
theorem dL_law_159 : decode cL_law 159 = .ok (.iconst 1, 1) := by decide +kernel
theorem dL_law_160 : decode cL_law 160 = .ok (.iadd, 1) := by decide +kernel
theorem dL_law_161 : decode cL_law 161 = .ok (.iaload, 1) := by decide +kernel
theorem dL_law_162 : decode cL_law 162 = .ok (.invokevirtual 21, 3) := by decide +kernel
theorem dL_law_165 : decode cL_law 165 = .ok (.if_icmp .eq 682, 3) := by decide +kernel
theorem dL_law_168 : decode cL_law 168 = .ok (.iconst 0, 1) := by decide +kernel
theorem dL_law_169 : decode cL_law 169 = .ok (.ireturn, 1) := by decide +kernel
theorem dL_law_170 : decode cL_law 170 = .ok (.aload_n 1, 1) := by decide +kernel
theorem dL_law_171 : decode cL_law 171 = .ok (.aload_n 0, 1) := by decide +kernel
theorem dL_law_172 : decode cL_law 172 = .ok (.iload_n 3, 1) := by decide +kernel
theorem dL_law_173 : decode cL_law 173 = .ok (.iconst 1, 1) := by decide +kernel
theorem dL_law_174 : decode cL_law 174 = .ok (.iadd, 1) := by decide +kernel
theorem dL_law_175 : decode cL_law 175 = .ok (.iaload, 1) := by decide +kernel
theorem dL_law_176 : decode cL_law 176 = .ok (.aload_n 0, 1) := by decide +kernel
theorem dL_law_177 : decode cL_law 177 = .ok (.iload_n 3, 1) := by decide +kernel
theorem dL_law_178 : decode cL_law 178 = .ok (.iconst 2, 1) := by decide +kernel
theorem dL_law_179 : decode cL_law 179 = .ok (.iadd, 1) := by decide +kernel
theorem dL_law_180 : decode cL_law 180 = .ok (.iaload, 1) := by decide +kernel
theorem dL_law_181 : decode cL_law 181 = .ok (.aload_n 0, 1) := by decide +kernel
theorem dL_law_182 : decode cL_law 182 = .ok (.iload_n 3, 1) := by decide +kernel
theorem dL_law_183 : decode cL_law 183 = .ok (.iconst 3, 1) := by decide +kernel
theorem dL_law_184 : decode cL_law 184 = .ok (.iadd, 1) := by decide +kernel
theorem dL_law_185 : decode cL_law 185 = .ok (.iaload, 1) := by decide +kernel
theorem dL_law_186 : decode cL_law 186 = .ok (.aload_n 0, 1) := by decide +kernel
theorem dL_law_187 : decode cL_law 187 = .ok (.iload_n 3, 1) := by decide +kernel
theorem dL_law_188 : decode cL_law 188 = .ok (.iconst 4, 1) := by decide +kernel
theorem dL_law_189 : decode cL_law 189 = .ok (.iadd, 1) := by decide +kernel
theorem dL_law_190 : decode cL_law 190 = .ok (.iaload, 1) := by decide +kernel
theorem dL_law_191 : decode cL_law 191 = .ok (.aload_n 0, 1) := by decide +kernel
theorem dL_law_192 : decode cL_law 192 = .ok (.iload_n 3, 1) := by decide +kernel
theorem dL_law_193 : decode cL_law 193 = .ok (.iconst 5, 1) := by decide +kernel
theorem dL_law_194 : decode cL_law 194 = .ok (.iadd, 1) := by decide +kernel
theorem dL_law_195 : decode cL_law 195 = .ok (.iaload, 1) := by decide +kernel
theorem dL_law_196 : decode cL_law 196 = .ok (.aload_n 0, 1) := by decide +kernel
theorem dL_law_197 : decode cL_law 197 = .ok (.iload_n 3, 1) := by decide +kernel
theorem dL_law_198 : decode cL_law 198 = .ok (.bipush 6, 2) := by decide +kernel
theorem dL_law_200 : decode cL_law 200 = .ok (.iadd, 1) := by decide +kernel
theorem dL_law_201 : decode cL_law 201 = .ok (.iaload, 1) := by decide +kernel
theorem dL_law_202 : decode cL_law 202 = .ok (.aload_n 0, 1) := by decide +kernel
theorem dL_law_203 : decode cL_law 203 = .ok (.iload_n 3, 1) := by decide +kernel
theorem dL_law_204 : decode cL_law 204 = .ok (.bipush 7, 2) := by decide +kernel
theorem dL_law_206 : decode cL_law 206 = .ok (.iadd, 1) := by decide +kernel
theorem dL_law_207 : decode cL_law 207 = .ok (.iaload, 1) := by decide +kernel
theorem dL_law_208 : decode cL_law 208 = .ok (.aload_n 0, 1) := by decide +kernel
theorem dL_law_209 : decode cL_law 209 = .ok (.iload_n 3, 1) := by decide +kernel
theorem dL_law_210 : decode cL_law 210 = .ok (.bipush 8, 2) := by decide +kernel
theorem dL_law_212 : decode cL_law 212 = .ok (.iadd, 1) := by decide +kernel
theorem dL_law_213 : decode cL_law 213 = .ok (.iaload, 1) := by decide +kernel
theorem dL_law_214 : decode cL_law 214 = .ok (.ifCond .eq 7, 3) := by decide +kernel
theorem dL_law_217 : decode cL_law 217 = .ok (.iconst 1, 1) := by decide +kernel
theorem dL_law_218 : decode cL_law 218 = .ok (.goto 4, 3) := by decide +kernel
theorem dL_law_221 : decode cL_law 221 = .ok (.iconst 0, 1) := by decide +kernel
theorem dL_law_222 : decode cL_law 222 = .ok (.invokevirtual 22, 3) := by decide +kernel
theorem dL_law_225 : decode cL_law 225 = .ok (.aload_n 2, 1) := by decide +kernel
theorem dL_law_226 : decode cL_law 226 = .ok (.aload_n 0, 1) := by decide +kernel
theorem dL_law_227 : decode cL_law 227 = .ok (.iload_n 3, 1) := by decide +kernel
theorem dL_law_228 : decode cL_law 228 = .ok (.iconst 1, 1) := by decide +kernel
theorem dL_law_229 : decode cL_law 229 = .ok (.iadd, 1) := by decide +kernel
theorem dL_law_230 : decode cL_law 230 = .ok (.iaload, 1) := by decide +kernel
theorem dL_law_231 : decode cL_law 231 = .ok (.aload_n 0, 1) := by decide +kernel
theorem dL_law_232 : decode cL_law 232 = .ok (.iload_n 3, 1) := by decide +kernel
theorem dL_law_233 : decode cL_law 233 = .ok (.iconst 2, 1) := by decide +kernel
theorem dL_law_234 : decode cL_law 234 = .ok (.iadd, 1) := by decide +kernel
theorem dL_law_235 : decode cL_law 235 = .ok (.iaload, 1) := by decide +kernel
theorem dL_law_236 : decode cL_law 236 = .ok (.aload_n 0, 1) := by decide +kernel
theorem dL_law_237 : decode cL_law 237 = .ok (.iload_n 3, 1) := by decide +kernel
theorem dL_law_238 : decode cL_law 238 = .ok (.iconst 3, 1) := by decide +kernel
theorem dL_law_239 : decode cL_law 239 = .ok (.iadd, 1) := by decide +kernel
theorem dL_law_240 : decode cL_law 240 = .ok (.iaload, 1) := by decide +kernel
theorem dL_law_241 : decode cL_law 241 = .ok (.aload_n 0, 1) := by decide +kernel
theorem dL_law_242 : decode cL_law 242 = .ok (.iload_n 3, 1) := by decide +kernel
theorem dL_law_243 : decode cL_law 243 = .ok (.iconst 4, 1) := by decide +kernel
theorem dL_law_244 : decode cL_law 244 = .ok (.iadd, 1) := by decide +kernel
theorem dL_law_245 : decode cL_law 245 = .ok (.iaload, 1) := by decide +kernel
theorem dL_law_246 : decode cL_law 246 = .ok (.aload_n 0, 1) := by decide +kernel
theorem dL_law_247 : decode cL_law 247 = .ok (.iload_n 3, 1) := by decide +kernel
theorem dL_law_248 : decode cL_law 248 = .ok (.iconst 5, 1) := by decide +kernel
theorem dL_law_249 : decode cL_law 249 = .ok (.iadd, 1) := by decide +kernel
theorem dL_law_250 : decode cL_law 250 = .ok (.iaload, 1) := by decide +kernel
theorem dL_law_251 : decode cL_law 251 = .ok (.aload_n 0, 1) := by decide +kernel
theorem dL_law_252 : decode cL_law 252 = .ok (.iload_n 3, 1) := by decide +kernel
theorem dL_law_253 : decode cL_law 253 = .ok (.bipush 6, 2) := by decide +kernel
theorem dL_law_255 : decode cL_law 255 = .ok (.iadd, 1) := by decide +kernel
theorem dL_law_256 : decode cL_law 256 = .ok (.iaload, 1) := by decide +kernel
theorem dL_law_257 : decode cL_law 257 = .ok (.aload_n 0, 1) := by decide +kernel
theorem dL_law_258 : decode cL_law 258 = .ok (.iload_n 3, 1) := by decide +kernel
theorem dL_law_259 : decode cL_law 259 = .ok (.bipush 7, 2) := by decide +kernel
theorem dL_law_261 : decode cL_law 261 = .ok (.iadd, 1) := by decide +kernel
theorem dL_law_262 : decode cL_law 262 = .ok (.iaload, 1) := by decide +kernel
theorem dL_law_263 : decode cL_law 263 = .ok (.aload_n 0, 1) := by decide +kernel
theorem dL_law_264 : decode cL_law 264 = .ok (.iload_n 3, 1) := by decide +kernel
theorem dL_law_265 : decode cL_law 265 = .ok (.bipush 8, 2) := by decide +kernel
theorem dL_law_267 : decode cL_law 267 = .ok (.iadd, 1) := by decide +kernel
theorem dL_law_268 : decode cL_law 268 = .ok (.iaload, 1) := by decide +kernel
theorem dL_law_269 : decode cL_law 269 = .ok (.ifCond .eq 7, 3) := by decide +kernel
theorem dL_law_272 : decode cL_law 272 = .ok (.iconst 1, 1) := by decide +kernel
theorem dL_law_273 : decode cL_law 273 = .ok (.goto 4, 3) := by decide +kernel
theorem dL_law_276 : decode cL_law 276 = .ok (.iconst 0, 1) := by decide +kernel
theorem dL_law_277 : decode cL_law 277 = .ok (.invokevirtual 26, 3) := by decide +kernel
theorem dL_law_280 : decode cL_law 280 = .ok (.if_icmp .eq 567, 3) := by decide +kernel
theorem dL_law_283 : decode cL_law 283 = .ok (.iconst 0, 1) := by decide +kernel
theorem dL_law_284 : decode cL_law 284 = .ok (.ireturn, 1) := by decide +kernel
theorem dL_law_285 : decode cL_law 285 = .ok (.aload_n 1, 1) := by decide +kernel
theorem dL_law_286 : decode cL_law 286 = .ok (.aload_n 0, 1) := by decide +kernel
theorem dL_law_287 : decode cL_law 287 = .ok (.iload_n 3, 1) := by decide +kernel
theorem dL_law_288 : decode cL_law 288 = .ok (.iconst 1, 1) := by decide +kernel
theorem dL_law_289 : decode cL_law 289 = .ok (.iadd, 1) := by decide +kernel
theorem dL_law_290 : decode cL_law 290 = .ok (.iaload, 1) := by decide +kernel
theorem dL_law_291 : decode cL_law 291 = .ok (.invokevirtual 27, 3) := by decide +kernel
theorem dL_law_294 : decode cL_law 294 = .ok (.aload_n 2, 1) := by decide +kernel
theorem dL_law_295 : decode cL_law 295 = .ok (.aload_n 0, 1) := by decide +kernel
theorem dL_law_296 : decode cL_law 296 = .ok (.iload_n 3, 1) := by decide +kernel
theorem dL_law_297 : decode cL_law 297 = .ok (.iconst 1, 1) := by decide +kernel
theorem dL_law_298 : decode cL_law 298 = .ok (.iadd, 1) := by decide +kernel
theorem dL_law_299 : decode cL_law 299 = .ok (.iaload, 1) := by decide +kernel
theorem dL_law_300 : decode cL_law 300 = .ok (.invokevirtual 30, 3) := by decide +kernel
theorem dL_law_303 : decode cL_law 303 = .ok (.if_icmp .eq 544, 3) := by decide +kernel
theorem dL_law_306 : decode cL_law 306 = .ok (.iconst 0, 1) := by decide +kernel
theorem dL_law_307 : decode cL_law 307 = .ok (.ireturn, 1) := by decide +kernel
theorem dL_law_308 : decode cL_law 308 = .ok (.aload_n 1, 1) := by decide +kernel
theorem dL_law_309 : decode cL_law 309 = .ok (.aload_n 0, 1) := by decide +kernel
theorem dL_law_310 : decode cL_law 310 = .ok (.iload_n 3, 1) := by decide +kernel
theorem dL_law_311 : decode cL_law 311 = .ok (.iconst 1, 1) := by decide +kernel
theorem dL_law_312 : decode cL_law 312 = .ok (.iadd, 1) := by decide +kernel
theorem dL_law_313 : decode cL_law 313 = .ok (.iaload, 1) := by decide +kernel
theorem dL_law_314 : decode cL_law 314 = .ok (.aload_n 0, 1) := by decide +kernel
theorem dL_law_315 : decode cL_law 315 = .ok (.iload_n 3, 1) := by decide +kernel
theorem dL_law_316 : decode cL_law 316 = .ok (.iconst 2, 1) := by decide +kernel
theorem dL_law_317 : decode cL_law 317 = .ok (.iadd, 1) := by decide +kernel
theorem dL_law_318 : decode cL_law 318 = .ok (.iaload, 1) := by decide +kernel
theorem dL_law_319 : decode cL_law 319 = .ok (.ifCond .eq 7, 3) := by decide +kernel
theorem dL_law_322 : decode cL_law 322 = .ok (.iconst 1, 1) := by decide +kernel
theorem dL_law_323 : decode cL_law 323 = .ok (.goto 4, 3) := by decide +kernel
theorem dL_law_326 : decode cL_law 326 = .ok (.iconst 0, 1) := by decide +kernel
theorem dL_law_327 : decode cL_law 327 = .ok (.aload_n 0, 1) := by decide +kernel
theorem dL_law_328 : decode cL_law 328 = .ok (.iload_n 3, 1) := by decide +kernel
theorem dL_law_329 : decode cL_law 329 = .ok (.iconst 3, 1) := by decide +kernel
theorem dL_law_330 : decode cL_law 330 = .ok (.iadd, 1) := by decide +kernel
theorem dL_law_331 : decode cL_law 331 = .ok (.iaload, 1) := by decide +kernel
theorem dL_law_332 : decode cL_law 332 = .ok (.invokevirtual 31, 3) := by decide +kernel
theorem dL_law_335 : decode cL_law 335 = .ok (.aload_n 2, 1) := by decide +kernel
theorem dL_law_336 : decode cL_law 336 = .ok (.aload_n 0, 1) := by decide +kernel
theorem dL_law_337 : decode cL_law 337 = .ok (.iload_n 3, 1) := by decide +kernel
theorem dL_law_338 : decode cL_law 338 = .ok (.iconst 1, 1) := by decide +kernel
theorem dL_law_339 : decode cL_law 339 = .ok (.iadd, 1) := by decide +kernel
theorem dL_law_340 : decode cL_law 340 = .ok (.iaload, 1) := by decide +kernel
theorem dL_law_341 : decode cL_law 341 = .ok (.aload_n 0, 1) := by decide +kernel
theorem dL_law_342 : decode cL_law 342 = .ok (.iload_n 3, 1) := by decide +kernel
theorem dL_law_343 : decode cL_law 343 = .ok (.iconst 2, 1) := by decide +kernel
theorem dL_law_344 : decode cL_law 344 = .ok (.iadd, 1) := by decide +kernel
theorem dL_law_345 : decode cL_law 345 = .ok (.iaload, 1) := by decide +kernel
theorem dL_law_346 : decode cL_law 346 = .ok (.ifCond .eq 7, 3) := by decide +kernel
theorem dL_law_349 : decode cL_law 349 = .ok (.iconst 1, 1) := by decide +kernel
theorem dL_law_350 : decode cL_law 350 = .ok (.goto 4, 3) := by decide +kernel
theorem dL_law_353 : decode cL_law 353 = .ok (.iconst 0, 1) := by decide +kernel
theorem dL_law_354 : decode cL_law 354 = .ok (.aload_n 0, 1) := by decide +kernel
theorem dL_law_355 : decode cL_law 355 = .ok (.iload_n 3, 1) := by decide +kernel
theorem dL_law_356 : decode cL_law 356 = .ok (.iconst 3, 1) := by decide +kernel
theorem dL_law_357 : decode cL_law 357 = .ok (.iadd, 1) := by decide +kernel
theorem dL_law_358 : decode cL_law 358 = .ok (.iaload, 1) := by decide +kernel
theorem dL_law_359 : decode cL_law 359 = .ok (.invokevirtual 35, 3) := by decide +kernel
theorem dL_law_362 : decode cL_law 362 = .ok (.if_icmp .eq 485, 3) := by decide +kernel
theorem dL_law_365 : decode cL_law 365 = .ok (.iconst 0, 1) := by decide +kernel
theorem dL_law_366 : decode cL_law 366 = .ok (.ireturn, 1) := by decide +kernel
theorem dL_law_367 : decode cL_law 367 = .ok (.aload_n 1, 1) := by decide +kernel
theorem dL_law_368 : decode cL_law 368 = .ok (.aload_n 0, 1) := by decide +kernel
theorem dL_law_369 : decode cL_law 369 = .ok (.iload_n 3, 1) := by decide +kernel
theorem dL_law_370 : decode cL_law 370 = .ok (.iconst 1, 1) := by decide +kernel
theorem dL_law_371 : decode cL_law 371 = .ok (.iadd, 1) := by decide +kernel
theorem dL_law_372 : decode cL_law 372 = .ok (.iaload, 1) := by decide +kernel
theorem dL_law_373 : decode cL_law 373 = .ok (.aload_n 0, 1) := by decide +kernel
theorem dL_law_374 : decode cL_law 374 = .ok (.iload_n 3, 1) := by decide +kernel
theorem dL_law_375 : decode cL_law 375 = .ok (.iconst 2, 1) := by decide +kernel
theorem dL_law_376 : decode cL_law 376 = .ok (.iadd, 1) := by decide +kernel
theorem dL_law_377 : decode cL_law 377 = .ok (.iaload, 1) := by decide +kernel
theorem dL_law_378 : decode cL_law 378 = .ok (.aload_n 0, 1) := by decide +kernel
theorem dL_law_379 : decode cL_law 379 = .ok (.iload_n 3, 1) := by decide +kernel
theorem dL_law_380 : decode cL_law 380 = .ok (.iconst 3, 1) := by decide +kernel
theorem dL_law_381 : decode cL_law 381 = .ok (.iadd, 1) := by decide +kernel
theorem dL_law_382 : decode cL_law 382 = .ok (.iaload, 1) := by decide +kernel
theorem dL_law_383 : decode cL_law 383 = .ok (.invokevirtual 36, 3) := by decide +kernel
theorem dL_law_386 : decode cL_law 386 = .ok (.aload_n 2, 1) := by decide +kernel
theorem dL_law_387 : decode cL_law 387 = .ok (.aload_n 0, 1) := by decide +kernel
theorem dL_law_388 : decode cL_law 388 = .ok (.iload_n 3, 1) := by decide +kernel
theorem dL_law_389 : decode cL_law 389 = .ok (.iconst 1, 1) := by decide +kernel
theorem dL_law_390 : decode cL_law 390 = .ok (.iadd, 1) := by decide +kernel
theorem dL_law_391 : decode cL_law 391 = .ok (.iaload, 1) := by decide +kernel
theorem dL_law_392 : decode cL_law 392 = .ok (.aload_n 0, 1) := by decide +kernel
theorem dL_law_393 : decode cL_law 393 = .ok (.iload_n 3, 1) := by decide +kernel
theorem dL_law_394 : decode cL_law 394 = .ok (.iconst 2, 1) := by decide +kernel
theorem dL_law_395 : decode cL_law 395 = .ok (.iadd, 1) := by decide +kernel
theorem dL_law_396 : decode cL_law 396 = .ok (.iaload, 1) := by decide +kernel
theorem dL_law_397 : decode cL_law 397 = .ok (.aload_n 0, 1) := by decide +kernel
theorem dL_law_398 : decode cL_law 398 = .ok (.iload_n 3, 1) := by decide +kernel
theorem dL_law_399 : decode cL_law 399 = .ok (.iconst 3, 1) := by decide +kernel
theorem dL_law_400 : decode cL_law 400 = .ok (.iadd, 1) := by decide +kernel
theorem dL_law_401 : decode cL_law 401 = .ok (.iaload, 1) := by decide +kernel
theorem dL_law_402 : decode cL_law 402 = .ok (.invokevirtual 40, 3) := by decide +kernel
theorem dL_law_405 : decode cL_law 405 = .ok (.if_icmp .eq 442, 3) := by decide +kernel
theorem dL_law_408 : decode cL_law 408 = .ok (.iconst 0, 1) := by decide +kernel
theorem dL_law_409 : decode cL_law 409 = .ok (.ireturn, 1) := by decide +kernel
theorem dL_law_410 : decode cL_law 410 = .ok (.aload_n 1, 1) := by decide +kernel
theorem dL_law_411 : decode cL_law 411 = .ok (.aload_n 0, 1) := by decide +kernel
theorem dL_law_412 : decode cL_law 412 = .ok (.iload_n 3, 1) := by decide +kernel
theorem dL_law_413 : decode cL_law 413 = .ok (.iconst 1, 1) := by decide +kernel
theorem dL_law_414 : decode cL_law 414 = .ok (.iadd, 1) := by decide +kernel
theorem dL_law_415 : decode cL_law 415 = .ok (.iaload, 1) := by decide +kernel
theorem dL_law_416 : decode cL_law 416 = .ok (.aload_n 0, 1) := by decide +kernel
theorem dL_law_417 : decode cL_law 417 = .ok (.iload_n 3, 1) := by decide +kernel
theorem dL_law_418 : decode cL_law 418 = .ok (.iconst 2, 1) := by decide +kernel
theorem dL_law_419 : decode cL_law 419 = .ok (.iadd, 1) := by decide +kernel
theorem dL_law_420 : decode cL_law 420 = .ok (.iaload, 1) := by decide +kernel
theorem dL_law_421 : decode cL_law 421 = .ok (.aload_n 0, 1) := by decide +kernel
theorem dL_law_422 : decode cL_law 422 = .ok (.iload_n 3, 1) := by decide +kernel
theorem dL_law_423 : decode cL_law 423 = .ok (.iconst 3, 1) := by decide +kernel
theorem dL_law_424 : decode cL_law 424 = .ok (.iadd, 1) := by decide +kernel
theorem dL_law_425 : decode cL_law 425 = .ok (.iaload, 1) := by decide +kernel
theorem dL_law_426 : decode cL_law 426 = .ok (.aload_n 0, 1) := by decide +kernel
theorem dL_law_427 : decode cL_law 427 = .ok (.iload_n 3, 1) := by decide +kernel
theorem dL_law_428 : decode cL_law 428 = .ok (.iconst 4, 1) := by decide +kernel
theorem dL_law_429 : decode cL_law 429 = .ok (.iadd, 1) := by decide +kernel
theorem dL_law_430 : decode cL_law 430 = .ok (.iaload, 1) := by decide +kernel
theorem dL_law_431 : decode cL_law 431 = .ok (.invokevirtual 41, 3) := by decide +kernel
theorem dL_law_434 : decode cL_law 434 = .ok (.aload_n 2, 1) := by decide +kernel
theorem dL_law_435 : decode cL_law 435 = .ok (.aload_n 0, 1) := by decide +kernel
theorem dL_law_436 : decode cL_law 436 = .ok (.iload_n 3, 1) := by decide +kernel
theorem dL_law_437 : decode cL_law 437 = .ok (.iconst 1, 1) := by decide +kernel
theorem dL_law_438 : decode cL_law 438 = .ok (.iadd, 1) := by decide +kernel
theorem dL_law_439 : decode cL_law 439 = .ok (.iaload, 1) := by decide +kernel
theorem dL_law_440 : decode cL_law 440 = .ok (.aload_n 0, 1) := by decide +kernel
theorem dL_law_441 : decode cL_law 441 = .ok (.iload_n 3, 1) := by decide +kernel
theorem dL_law_442 : decode cL_law 442 = .ok (.iconst 2, 1) := by decide +kernel
theorem dL_law_443 : decode cL_law 443 = .ok (.iadd, 1) := by decide +kernel
theorem dL_law_444 : decode cL_law 444 = .ok (.iaload, 1) := by decide +kernel
theorem dL_law_445 : decode cL_law 445 = .ok (.aload_n 0, 1) := by decide +kernel
theorem dL_law_446 : decode cL_law 446 = .ok (.iload_n 3, 1) := by decide +kernel
theorem dL_law_447 : decode cL_law 447 = .ok (.iconst 3, 1) := by decide +kernel
theorem dL_law_448 : decode cL_law 448 = .ok (.iadd, 1) := by decide +kernel
theorem dL_law_449 : decode cL_law 449 = .ok (.iaload, 1) := by decide +kernel
theorem dL_law_450 : decode cL_law 450 = .ok (.aload_n 0, 1) := by decide +kernel
theorem dL_law_451 : decode cL_law 451 = .ok (.iload_n 3, 1) := by decide +kernel
theorem dL_law_452 : decode cL_law 452 = .ok (.iconst 4, 1) := by decide +kernel
theorem dL_law_453 : decode cL_law 453 = .ok (.iadd, 1) := by decide +kernel
theorem dL_law_454 : decode cL_law 454 = .ok (.iaload, 1) := by decide +kernel
theorem dL_law_455 : decode cL_law 455 = .ok (.invokevirtual 45, 3) := by decide +kernel
theorem dL_law_458 : decode cL_law 458 = .ok (.if_icmp .eq 389, 3) := by decide +kernel
theorem dL_law_461 : decode cL_law 461 = .ok (.iconst 0, 1) := by decide +kernel
theorem dL_law_462 : decode cL_law 462 = .ok (.ireturn, 1) := by decide +kernel
theorem dL_law_463 : decode cL_law 463 = .ok (.aload_n 1, 1) := by decide +kernel
theorem dL_law_464 : decode cL_law 464 = .ok (.aload_n 0, 1) := by decide +kernel
theorem dL_law_465 : decode cL_law 465 = .ok (.iload_n 3, 1) := by decide +kernel
theorem dL_law_466 : decode cL_law 466 = .ok (.iconst 1, 1) := by decide +kernel
theorem dL_law_467 : decode cL_law 467 = .ok (.iadd, 1) := by decide +kernel
theorem dL_law_468 : decode cL_law 468 = .ok (.iaload, 1) := by decide +kernel
theorem dL_law_469 : decode cL_law 469 = .ok (.aload_n 0, 1) := by decide +kernel
theorem dL_law_470 : decode cL_law 470 = .ok (.iload_n 3, 1) := by decide +kernel
theorem dL_law_471 : decode cL_law 471 = .ok (.iconst 2, 1) := by decide +kernel
theorem dL_law_472 : decode cL_law 472 = .ok (.iadd, 1) := by decide +kernel
theorem dL_law_473 : decode cL_law 473 = .ok (.iaload, 1) := by decide +kernel
theorem dL_law_474 : decode cL_law 474 = .ok (.invokevirtual 46, 3) := by decide +kernel
theorem dL_law_477 : decode cL_law 477 = .ok (.aload_n 2, 1) := by decide +kernel
theorem dL_law_478 : decode cL_law 478 = .ok (.aload_n 0, 1) := by decide +kernel
theorem dL_law_479 : decode cL_law 479 = .ok (.iload_n 3, 1) := by decide +kernel
theorem dL_law_480 : decode cL_law 480 = .ok (.iconst 1, 1) := by decide +kernel
theorem dL_law_481 : decode cL_law 481 = .ok (.iadd, 1) := by decide +kernel
theorem dL_law_482 : decode cL_law 482 = .ok (.iaload, 1) := by decide +kernel
theorem dL_law_483 : decode cL_law 483 = .ok (.aload_n 0, 1) := by decide +kernel
theorem dL_law_484 : decode cL_law 484 = .ok (.iload_n 3, 1) := by decide +kernel
theorem dL_law_485 : decode cL_law 485 = .ok (.iconst 2, 1) := by decide +kernel
theorem dL_law_486 : decode cL_law 486 = .ok (.iadd, 1) := by decide +kernel
theorem dL_law_487 : decode cL_law 487 = .ok (.iaload, 1) := by decide +kernel
theorem dL_law_488 : decode cL_law 488 = .ok (.invokevirtual 50, 3) := by decide +kernel
theorem dL_law_491 : decode cL_law 491 = .ok (.if_icmp .eq 356, 3) := by decide +kernel
theorem dL_law_494 : decode cL_law 494 = .ok (.iconst 0, 1) := by decide +kernel
theorem dL_law_495 : decode cL_law 495 = .ok (.ireturn, 1) := by decide +kernel
theorem dL_law_496 : decode cL_law 496 = .ok (.aload_n 1, 1) := by decide +kernel
theorem dL_law_497 : decode cL_law 497 = .ok (.aload_n 0, 1) := by decide +kernel
theorem dL_law_498 : decode cL_law 498 = .ok (.iload_n 3, 1) := by decide +kernel
theorem dL_law_499 : decode cL_law 499 = .ok (.iconst 1, 1) := by decide +kernel
theorem dL_law_500 : decode cL_law 500 = .ok (.iadd, 1) := by decide +kernel
theorem dL_law_501 : decode cL_law 501 = .ok (.iaload, 1) := by decide +kernel
theorem dL_law_502 : decode cL_law 502 = .ok (.invokevirtual 51, 3) := by decide +kernel
theorem dL_law_505 : decode cL_law 505 = .ok (.aload_n 2, 1) := by decide +kernel
theorem dL_law_506 : decode cL_law 506 = .ok (.aload_n 0, 1) := by decide +kernel
theorem dL_law_507 : decode cL_law 507 = .ok (.iload_n 3, 1) := by decide +kernel
theorem dL_law_508 : decode cL_law 508 = .ok (.iconst 1, 1) := by decide +kernel
theorem dL_law_509 : decode cL_law 509 = .ok (.iadd, 1) := by decide +kernel
theorem dL_law_510 : decode cL_law 510 = .ok (.iaload, 1) := by decide +kernel
theorem dL_law_511 : decode cL_law 511 = .ok (.invokevirtual 54, 3) := by decide +kernel
theorem dL_law_514 : decode cL_law 514 = .ok (.if_icmp .eq 333, 3) := by decide +kernel
theorem dL_law_517 : decode cL_law 517 = .ok (.iconst 0, 1) := by decide +kernel
theorem dL_law_518 : decode cL_law 518 = .ok (.ireturn, 1) := by decide +kernel
theorem dL_law_519 : decode cL_law 519 = .ok (.aload_n 1, 1) := by decide +kernel
theorem dL_law_520 : decode cL_law 520 = .ok (.aload_n 0, 1) := by decide +kernel
theorem dL_law_521 : decode cL_law 521 = .ok (.iload_n 3, 1) := by decide +kernel
theorem dL_law_522 : decode cL_law 522 = .ok (.iconst 1, 1) := by decide +kernel
theorem dL_law_523 : decode cL_law 523 = .ok (.iadd, 1) := by decide +kernel
theorem dL_law_524 : decode cL_law 524 = .ok (.iaload, 1) := by decide +kernel
theorem dL_law_525 : decode cL_law 525 = .ok (.invokevirtual 55, 3) := by decide +kernel
theorem dL_law_528 : decode cL_law 528 = .ok (.aload_n 2, 1) := by decide +kernel
theorem dL_law_529 : decode cL_law 529 = .ok (.aload_n 0, 1) := by decide +kernel
theorem dL_law_530 : decode cL_law 530 = .ok (.iload_n 3, 1) := by decide +kernel
theorem dL_law_531 : decode cL_law 531 = .ok (.iconst 1, 1) := by decide +kernel
theorem dL_law_532 : decode cL_law 532 = .ok (.iadd, 1) := by decide +kernel
theorem dL_law_533 : decode cL_law 533 = .ok (.iaload, 1) := by decide +kernel
theorem dL_law_534 : decode cL_law 534 = .ok (.invokevirtual 58, 3) := by decide +kernel
theorem dL_law_537 : decode cL_law 537 = .ok (.if_icmp .eq 310, 3) := by decide +kernel
theorem dL_law_540 : decode cL_law 540 = .ok (.iconst 0, 1) := by decide +kernel
theorem dL_law_541 : decode cL_law 541 = .ok (.ireturn, 1) := by decide +kernel
theorem dL_law_542 : decode cL_law 542 = .ok (.aload_n 1, 1) := by decide +kernel
theorem dL_law_543 : decode cL_law 543 = .ok (.aload_n 0, 1) := by decide +kernel
theorem dL_law_544 : decode cL_law 544 = .ok (.iload_n 3, 1) := by decide +kernel
theorem dL_law_545 : decode cL_law 545 = .ok (.iconst 1, 1) := by decide +kernel
theorem dL_law_546 : decode cL_law 546 = .ok (.iadd, 1) := by decide +kernel
theorem dL_law_547 : decode cL_law 547 = .ok (.iaload, 1) := by decide +kernel
theorem dL_law_548 : decode cL_law 548 = .ok (.aload_n 0, 1) := by decide +kernel
theorem dL_law_549 : decode cL_law 549 = .ok (.iload_n 3, 1) := by decide +kernel
theorem dL_law_550 : decode cL_law 550 = .ok (.iconst 2, 1) := by decide +kernel
theorem dL_law_551 : decode cL_law 551 = .ok (.iadd, 1) := by decide +kernel
theorem dL_law_552 : decode cL_law 552 = .ok (.iaload, 1) := by decide +kernel
theorem dL_law_553 : decode cL_law 553 = .ok (.aload_n 0, 1) := by decide +kernel
theorem dL_law_554 : decode cL_law 554 = .ok (.iload_n 3, 1) := by decide +kernel
theorem dL_law_555 : decode cL_law 555 = .ok (.iconst 3, 1) := by decide +kernel
theorem dL_law_556 : decode cL_law 556 = .ok (.iadd, 1) := by decide +kernel
theorem dL_law_557 : decode cL_law 557 = .ok (.iaload, 1) := by decide +kernel
theorem dL_law_558 : decode cL_law 558 = .ok (.invokevirtual 59, 3) := by decide +kernel
theorem dL_law_561 : decode cL_law 561 = .ok (.aload_n 2, 1) := by decide +kernel
theorem dL_law_562 : decode cL_law 562 = .ok (.aload_n 0, 1) := by decide +kernel
theorem dL_law_563 : decode cL_law 563 = .ok (.iload_n 3, 1) := by decide +kernel
theorem dL_law_564 : decode cL_law 564 = .ok (.iconst 1, 1) := by decide +kernel
theorem dL_law_565 : decode cL_law 565 = .ok (.iadd, 1) := by decide +kernel
theorem dL_law_566 : decode cL_law 566 = .ok (.iaload, 1) := by decide +kernel
theorem dL_law_567 : decode cL_law 567 = .ok (.aload_n 0, 1) := by decide +kernel
theorem dL_law_568 : decode cL_law 568 = .ok (.iload_n 3, 1) := by decide +kernel
theorem dL_law_569 : decode cL_law 569 = .ok (.iconst 2, 1) := by decide +kernel
theorem dL_law_570 : decode cL_law 570 = .ok (.iadd, 1) := by decide +kernel
theorem dL_law_571 : decode cL_law 571 = .ok (.iaload, 1) := by decide +kernel
theorem dL_law_572 : decode cL_law 572 = .ok (.aload_n 0, 1) := by decide +kernel
theorem dL_law_573 : decode cL_law 573 = .ok (.iload_n 3, 1) := by decide +kernel
theorem dL_law_574 : decode cL_law 574 = .ok (.iconst 3, 1) := by decide +kernel
theorem dL_law_575 : decode cL_law 575 = .ok (.iadd, 1) := by decide +kernel
theorem dL_law_576 : decode cL_law 576 = .ok (.iaload, 1) := by decide +kernel
theorem dL_law_577 : decode cL_law 577 = .ok (.invokevirtual 62, 3) := by decide +kernel
theorem dL_law_580 : decode cL_law 580 = .ok (.if_icmp .eq 267, 3) := by decide +kernel
theorem dL_law_583 : decode cL_law 583 = .ok (.iconst 0, 1) := by decide +kernel
theorem dL_law_584 : decode cL_law 584 = .ok (.ireturn, 1) := by decide +kernel
theorem dL_law_585 : decode cL_law 585 = .ok (.aload_n 1, 1) := by decide +kernel
theorem dL_law_586 : decode cL_law 586 = .ok (.aload_n 0, 1) := by decide +kernel
theorem dL_law_587 : decode cL_law 587 = .ok (.iload_n 3, 1) := by decide +kernel
theorem dL_law_588 : decode cL_law 588 = .ok (.iconst 1, 1) := by decide +kernel
theorem dL_law_589 : decode cL_law 589 = .ok (.iadd, 1) := by decide +kernel
theorem dL_law_590 : decode cL_law 590 = .ok (.iaload, 1) := by decide +kernel
theorem dL_law_591 : decode cL_law 591 = .ok (.invokevirtual 63, 3) := by decide +kernel
theorem dL_law_594 : decode cL_law 594 = .ok (.aload_n 2, 1) := by decide +kernel
theorem dL_law_595 : decode cL_law 595 = .ok (.aload_n 0, 1) := by decide +kernel
theorem dL_law_596 : decode cL_law 596 = .ok (.iload_n 3, 1) := by decide +kernel
theorem dL_law_597 : decode cL_law 597 = .ok (.iconst 1, 1) := by decide +kernel
theorem dL_law_598 : decode cL_law 598 = .ok (.iadd, 1) := by decide +kernel
theorem dL_law_599 : decode cL_law 599 = .ok (.iaload, 1) := by decide +kernel
theorem dL_law_600 : decode cL_law 600 = .ok (.invokevirtual 66, 3) := by decide +kernel
theorem dL_law_603 : decode cL_law 603 = .ok (.if_icmp .eq 244, 3) := by decide +kernel
theorem dL_law_606 : decode cL_law 606 = .ok (.iconst 0, 1) := by decide +kernel
theorem dL_law_607 : decode cL_law 607 = .ok (.ireturn, 1) := by decide +kernel
theorem dL_law_608 : decode cL_law 608 = .ok (.aload_n 1, 1) := by decide +kernel
theorem dL_law_609 : decode cL_law 609 = .ok (.aload_n 0, 1) := by decide +kernel
theorem dL_law_610 : decode cL_law 610 = .ok (.iload_n 3, 1) := by decide +kernel
theorem dL_law_611 : decode cL_law 611 = .ok (.iconst 1, 1) := by decide +kernel
theorem dL_law_612 : decode cL_law 612 = .ok (.iadd, 1) := by decide +kernel
theorem dL_law_613 : decode cL_law 613 = .ok (.iaload, 1) := by decide +kernel
theorem dL_law_614 : decode cL_law 614 = .ok (.invokevirtual 67, 3) := by decide +kernel
theorem dL_law_617 : decode cL_law 617 = .ok (.aload_n 2, 1) := by decide +kernel
theorem dL_law_618 : decode cL_law 618 = .ok (.aload_n 0, 1) := by decide +kernel
theorem dL_law_619 : decode cL_law 619 = .ok (.iload_n 3, 1) := by decide +kernel
theorem dL_law_620 : decode cL_law 620 = .ok (.iconst 1, 1) := by decide +kernel
theorem dL_law_621 : decode cL_law 621 = .ok (.iadd, 1) := by decide +kernel
theorem dL_law_622 : decode cL_law 622 = .ok (.iaload, 1) := by decide +kernel
theorem dL_law_623 : decode cL_law 623 = .ok (.invokevirtual 70, 3) := by decide +kernel
theorem dL_law_626 : decode cL_law 626 = .ok (.if_icmp .eq 221, 3) := by decide +kernel
theorem dL_law_629 : decode cL_law 629 = .ok (.iconst 0, 1) := by decide +kernel
theorem dL_law_630 : decode cL_law 630 = .ok (.ireturn, 1) := by decide +kernel
theorem dL_law_631 : decode cL_law 631 = .ok (.aload_n 1, 1) := by decide +kernel
theorem dL_law_632 : decode cL_law 632 = .ok (.aload_n 0, 1) := by decide +kernel
theorem dL_law_633 : decode cL_law 633 = .ok (.iload_n 3, 1) := by decide +kernel
theorem dL_law_634 : decode cL_law 634 = .ok (.iconst 1, 1) := by decide +kernel
theorem dL_law_635 : decode cL_law 635 = .ok (.iadd, 1) := by decide +kernel
theorem dL_law_636 : decode cL_law 636 = .ok (.iaload, 1) := by decide +kernel
theorem dL_law_637 : decode cL_law 637 = .ok (.aload_n 0, 1) := by decide +kernel
theorem dL_law_638 : decode cL_law 638 = .ok (.iload_n 3, 1) := by decide +kernel
theorem dL_law_639 : decode cL_law 639 = .ok (.iconst 2, 1) := by decide +kernel
theorem dL_law_640 : decode cL_law 640 = .ok (.iadd, 1) := by decide +kernel
theorem dL_law_641 : decode cL_law 641 = .ok (.iaload, 1) := by decide +kernel
theorem dL_law_642 : decode cL_law 642 = .ok (.invokevirtual 71, 3) := by decide +kernel
theorem dL_law_645 : decode cL_law 645 = .ok (.aload_n 2, 1) := by decide +kernel
theorem dL_law_646 : decode cL_law 646 = .ok (.aload_n 0, 1) := by decide +kernel
theorem dL_law_647 : decode cL_law 647 = .ok (.iload_n 3, 1) := by decide +kernel
theorem dL_law_648 : decode cL_law 648 = .ok (.iconst 1, 1) := by decide +kernel
theorem dL_law_649 : decode cL_law 649 = .ok (.iadd, 1) := by decide +kernel
theorem dL_law_650 : decode cL_law 650 = .ok (.iaload, 1) := by decide +kernel
theorem dL_law_651 : decode cL_law 651 = .ok (.aload_n 0, 1) := by decide +kernel
theorem dL_law_652 : decode cL_law 652 = .ok (.iload_n 3, 1) := by decide +kernel
theorem dL_law_653 : decode cL_law 653 = .ok (.iconst 2, 1) := by decide +kernel
theorem dL_law_654 : decode cL_law 654 = .ok (.iadd, 1) := by decide +kernel
theorem dL_law_655 : decode cL_law 655 = .ok (.iaload, 1) := by decide +kernel
theorem dL_law_656 : decode cL_law 656 = .ok (.invokevirtual 74, 3) := by decide +kernel
theorem dL_law_659 : decode cL_law 659 = .ok (.if_icmp .eq 188, 3) := by decide +kernel
theorem dL_law_662 : decode cL_law 662 = .ok (.iconst 0, 1) := by decide +kernel
theorem dL_law_663 : decode cL_law 663 = .ok (.ireturn, 1) := by decide +kernel
theorem dL_law_664 : decode cL_law 664 = .ok (.aload_n 1, 1) := by decide +kernel
theorem dL_law_665 : decode cL_law 665 = .ok (.invokevirtual 75, 3) := by decide +kernel
theorem dL_law_668 : decode cL_law 668 = .ok (.aload_n 2, 1) := by decide +kernel
theorem dL_law_669 : decode cL_law 669 = .ok (.invokevirtual 79, 3) := by decide +kernel
theorem dL_law_672 : decode cL_law 672 = .ok (.if_icmp .eq 175, 3) := by decide +kernel
theorem dL_law_675 : decode cL_law 675 = .ok (.iconst 0, 1) := by decide +kernel
theorem dL_law_676 : decode cL_law 676 = .ok (.ireturn, 1) := by decide +kernel
theorem dL_law_677 : decode cL_law 677 = .ok (.aload_n 1, 1) := by decide +kernel
theorem dL_law_678 : decode cL_law 678 = .ok (.aload_n 0, 1) := by decide +kernel
theorem dL_law_679 : decode cL_law 679 = .ok (.iload_n 3, 1) := by decide +kernel
theorem dL_law_680 : decode cL_law 680 = .ok (.iconst 1, 1) := by decide +kernel
theorem dL_law_681 : decode cL_law 681 = .ok (.iadd, 1) := by decide +kernel
theorem dL_law_682 : decode cL_law 682 = .ok (.iaload, 1) := by decide +kernel
theorem dL_law_683 : decode cL_law 683 = .ok (.aload_n 0, 1) := by decide +kernel
theorem dL_law_684 : decode cL_law 684 = .ok (.iload_n 3, 1) := by decide +kernel
theorem dL_law_685 : decode cL_law 685 = .ok (.iconst 2, 1) := by decide +kernel
theorem dL_law_686 : decode cL_law 686 = .ok (.iadd, 1) := by decide +kernel
theorem dL_law_687 : decode cL_law 687 = .ok (.iaload, 1) := by decide +kernel
theorem dL_law_688 : decode cL_law 688 = .ok (.ifCond .eq 7, 3) := by decide +kernel
theorem dL_law_691 : decode cL_law 691 = .ok (.iconst 1, 1) := by decide +kernel
theorem dL_law_692 : decode cL_law 692 = .ok (.goto 4, 3) := by decide +kernel
theorem dL_law_695 : decode cL_law 695 = .ok (.iconst 0, 1) := by decide +kernel
theorem dL_law_696 : decode cL_law 696 = .ok (.aload_n 0, 1) := by decide +kernel
theorem dL_law_697 : decode cL_law 697 = .ok (.iload_n 3, 1) := by decide +kernel
theorem dL_law_698 : decode cL_law 698 = .ok (.iconst 3, 1) := by decide +kernel
theorem dL_law_699 : decode cL_law 699 = .ok (.iadd, 1) := by decide +kernel
theorem dL_law_700 : decode cL_law 700 = .ok (.iaload, 1) := by decide +kernel
theorem dL_law_701 : decode cL_law 701 = .ok (.aload_n 0, 1) := by decide +kernel
theorem dL_law_702 : decode cL_law 702 = .ok (.iload_n 3, 1) := by decide +kernel
theorem dL_law_703 : decode cL_law 703 = .ok (.iconst 4, 1) := by decide +kernel
theorem dL_law_704 : decode cL_law 704 = .ok (.iadd, 1) := by decide +kernel
theorem dL_law_705 : decode cL_law 705 = .ok (.iaload, 1) := by decide +kernel
theorem dL_law_706 : decode cL_law 706 = .ok (.aload_n 0, 1) := by decide +kernel
theorem dL_law_707 : decode cL_law 707 = .ok (.iload_n 3, 1) := by decide +kernel
theorem dL_law_708 : decode cL_law 708 = .ok (.iconst 5, 1) := by decide +kernel
theorem dL_law_709 : decode cL_law 709 = .ok (.iadd, 1) := by decide +kernel
theorem dL_law_710 : decode cL_law 710 = .ok (.iaload, 1) := by decide +kernel
theorem dL_law_711 : decode cL_law 711 = .ok (.aload_n 0, 1) := by decide +kernel
theorem dL_law_712 : decode cL_law 712 = .ok (.iload_n 3, 1) := by decide +kernel
theorem dL_law_713 : decode cL_law 713 = .ok (.bipush 6, 2) := by decide +kernel
theorem dL_law_715 : decode cL_law 715 = .ok (.iadd, 1) := by decide +kernel
theorem dL_law_716 : decode cL_law 716 = .ok (.iaload, 1) := by decide +kernel
theorem dL_law_717 : decode cL_law 717 = .ok (.invokevirtual 80, 3) := by decide +kernel
theorem dL_law_720 : decode cL_law 720 = .ok (.aload_n 2, 1) := by decide +kernel
theorem dL_law_721 : decode cL_law 721 = .ok (.aload_n 0, 1) := by decide +kernel
theorem dL_law_722 : decode cL_law 722 = .ok (.iload_n 3, 1) := by decide +kernel
theorem dL_law_723 : decode cL_law 723 = .ok (.iconst 1, 1) := by decide +kernel
theorem dL_law_724 : decode cL_law 724 = .ok (.iadd, 1) := by decide +kernel
theorem dL_law_725 : decode cL_law 725 = .ok (.iaload, 1) := by decide +kernel
theorem dL_law_726 : decode cL_law 726 = .ok (.aload_n 0, 1) := by decide +kernel
theorem dL_law_727 : decode cL_law 727 = .ok (.iload_n 3, 1) := by decide +kernel
theorem dL_law_728 : decode cL_law 728 = .ok (.iconst 2, 1) := by decide +kernel
theorem dL_law_729 : decode cL_law 729 = .ok (.iadd, 1) := by decide +kernel
theorem dL_law_730 : decode cL_law 730 = .ok (.iaload, 1) := by decide +kernel
theorem dL_law_731 : decode cL_law 731 = .ok (.ifCond .eq 7, 3) := by decide +kernel
theorem dL_law_734 : decode cL_law 734 = .ok (.iconst 1, 1) := by decide +kernel
theorem dL_law_735 : decode cL_law 735 = .ok (.goto 4, 3) := by decide +kernel
theorem dL_law_738 : decode cL_law 738 = .ok (.iconst 0, 1) := by decide +kernel
theorem dL_law_739 : decode cL_law 739 = .ok (.aload_n 0, 1) := by decide +kernel
theorem dL_law_740 : decode cL_law 740 = .ok (.iload_n 3, 1) := by decide +kernel
theorem dL_law_741 : decode cL_law 741 = .ok (.iconst 3, 1) := by decide +kernel
theorem dL_law_742 : decode cL_law 742 = .ok (.iadd, 1) := by decide +kernel
theorem dL_law_743 : decode cL_law 743 = .ok (.iaload, 1) := by decide +kernel
theorem dL_law_744 : decode cL_law 744 = .ok (.aload_n 0, 1) := by decide +kernel
theorem dL_law_745 : decode cL_law 745 = .ok (.iload_n 3, 1) := by decide +kernel
theorem dL_law_746 : decode cL_law 746 = .ok (.iconst 4, 1) := by decide +kernel
theorem dL_law_747 : decode cL_law 747 = .ok (.iadd, 1) := by decide +kernel
theorem dL_law_748 : decode cL_law 748 = .ok (.iaload, 1) := by decide +kernel
theorem dL_law_749 : decode cL_law 749 = .ok (.aload_n 0, 1) := by decide +kernel
theorem dL_law_750 : decode cL_law 750 = .ok (.iload_n 3, 1) := by decide +kernel
theorem dL_law_751 : decode cL_law 751 = .ok (.iconst 5, 1) := by decide +kernel
theorem dL_law_752 : decode cL_law 752 = .ok (.iadd, 1) := by decide +kernel
theorem dL_law_753 : decode cL_law 753 = .ok (.iaload, 1) := by decide +kernel
theorem dL_law_754 : decode cL_law 754 = .ok (.aload_n 0, 1) := by decide +kernel
theorem dL_law_755 : decode cL_law 755 = .ok (.iload_n 3, 1) := by decide +kernel
theorem dL_law_756 : decode cL_law 756 = .ok (.bipush 6, 2) := by decide +kernel
theorem dL_law_758 : decode cL_law 758 = .ok (.iadd, 1) := by decide +kernel
theorem dL_law_759 : decode cL_law 759 = .ok (.iaload, 1) := by decide +kernel
theorem dL_law_760 : decode cL_law 760 = .ok (.invokevirtual 84, 3) := by decide +kernel
theorem dL_law_763 : decode cL_law 763 = .ok (.if_icmp .eq 84, 3) := by decide +kernel
theorem dL_law_766 : decode cL_law 766 = .ok (.iconst 0, 1) := by decide +kernel
theorem dL_law_767 : decode cL_law 767 = .ok (.ireturn, 1) := by decide +kernel
theorem dL_law_768 : decode cL_law 768 = .ok (.aload_n 1, 1) := by decide +kernel
theorem dL_law_769 : decode cL_law 769 = .ok (.aload_n 0, 1) := by decide +kernel
theorem dL_law_770 : decode cL_law 770 = .ok (.iload_n 3, 1) := by decide +kernel
theorem dL_law_771 : decode cL_law 771 = .ok (.iconst 1, 1) := by decide +kernel
theorem dL_law_772 : decode cL_law 772 = .ok (.iadd, 1) := by decide +kernel
theorem dL_law_773 : decode cL_law 773 = .ok (.iaload, 1) := by decide +kernel
theorem dL_law_774 : decode cL_law 774 = .ok (.invokevirtual 85, 3) := by decide +kernel
theorem dL_law_777 : decode cL_law 777 = .ok (.aload_n 2, 1) := by decide +kernel
theorem dL_law_778 : decode cL_law 778 = .ok (.aload_n 0, 1) := by decide +kernel
theorem dL_law_779 : decode cL_law 779 = .ok (.iload_n 3, 1) := by decide +kernel
theorem dL_law_780 : decode cL_law 780 = .ok (.iconst 1, 1) := by decide +kernel
theorem dL_law_781 : decode cL_law 781 = .ok (.iadd, 1) := by decide +kernel
theorem dL_law_782 : decode cL_law 782 = .ok (.iaload, 1) := by decide +kernel
theorem dL_law_783 : decode cL_law 783 = .ok (.invokevirtual 89, 3) := by decide +kernel
theorem dL_law_786 : decode cL_law 786 = .ok (.if_icmp .eq 61, 3) := by decide +kernel
theorem dL_law_789 : decode cL_law 789 = .ok (.iconst 0, 1) := by decide +kernel
theorem dL_law_790 : decode cL_law 790 = .ok (.ireturn, 1) := by decide +kernel
theorem dL_law_791 : decode cL_law 791 = .ok (.aload_n 1, 1) := by decide +kernel
theorem dL_law_792 : decode cL_law 792 = .ok (.aload_n 0, 1) := by decide +kernel
theorem dL_law_793 : decode cL_law 793 = .ok (.iload_n 3, 1) := by decide +kernel
theorem dL_law_794 : decode cL_law 794 = .ok (.iconst 1, 1) := by decide +kernel
theorem dL_law_795 : decode cL_law 795 = .ok (.iadd, 1) := by decide +kernel
theorem dL_law_796 : decode cL_law 796 = .ok (.iaload, 1) := by decide +kernel
theorem dL_law_797 : decode cL_law 797 = .ok (.aload_n 0, 1) := by decide +kernel
theorem dL_law_798 : decode cL_law 798 = .ok (.iload_n 3, 1) := by decide +kernel
theorem dL_law_799 : decode cL_law 799 = .ok (.iconst 2, 1) := by decide +kernel
theorem dL_law_800 : decode cL_law 800 = .ok (.iadd, 1) := by decide +kernel
theorem dL_law_801 : decode cL_law 801 = .ok (.iaload, 1) := by decide +kernel
theorem dL_law_802 : decode cL_law 802 = .ok (.invokevirtual 90, 3) := by decide +kernel
theorem dL_law_805 : decode cL_law 805 = .ok (.aload_n 2, 1) := by decide +kernel
theorem dL_law_806 : decode cL_law 806 = .ok (.aload_n 0, 1) := by decide +kernel
theorem dL_law_807 : decode cL_law 807 = .ok (.iload_n 3, 1) := by decide +kernel
theorem dL_law_808 : decode cL_law 808 = .ok (.iconst 1, 1) := by decide +kernel
theorem dL_law_809 : decode cL_law 809 = .ok (.iadd, 1) := by decide +kernel
theorem dL_law_810 : decode cL_law 810 = .ok (.iaload, 1) := by decide +kernel
theorem dL_law_811 : decode cL_law 811 = .ok (.aload_n 0, 1) := by decide +kernel
theorem dL_law_812 : decode cL_law 812 = .ok (.iload_n 3, 1) := by decide +kernel
theorem dL_law_813 : decode cL_law 813 = .ok (.iconst 2, 1) := by decide +kernel
theorem dL_law_814 : decode cL_law 814 = .ok (.iadd, 1) := by decide +kernel
theorem dL_law_815 : decode cL_law 815 = .ok (.iaload, 1) := by decide +kernel
theorem dL_law_816 : decode cL_law 816 = .ok (.invokevirtual 93, 3) := by decide +kernel
theorem dL_law_819 : decode cL_law 819 = .ok (.if_icmp .eq 28, 3) := by decide +kernel
theorem dL_law_822 : decode cL_law 822 = .ok (.iconst 0, 1) := by decide +kernel
theorem dL_law_823 : decode cL_law 823 = .ok (.ireturn, 1) := by decide +kernel
theorem dL_law_824 : decode cL_law 824 = .ok (.aload_n 1, 1) := by decide +kernel
theorem dL_law_825 : decode cL_law 825 = .ok (.aload_n 0, 1) := by decide +kernel
theorem dL_law_826 : decode cL_law 826 = .ok (.iload_n 3, 1) := by decide +kernel
theorem dL_law_827 : decode cL_law 827 = .ok (.iconst 1, 1) := by decide +kernel
theorem dL_law_828 : decode cL_law 828 = .ok (.iadd, 1) := by decide +kernel
theorem dL_law_829 : decode cL_law 829 = .ok (.iaload, 1) := by decide +kernel
theorem dL_law_830 : decode cL_law 830 = .ok (.invokevirtual 94, 3) := by decide +kernel
theorem dL_law_833 : decode cL_law 833 = .ok (.aload_n 2, 1) := by decide +kernel
theorem dL_law_834 : decode cL_law 834 = .ok (.aload_n 0, 1) := by decide +kernel
theorem dL_law_835 : decode cL_law 835 = .ok (.iload_n 3, 1) := by decide +kernel
theorem dL_law_836 : decode cL_law 836 = .ok (.iconst 1, 1) := by decide +kernel
theorem dL_law_837 : decode cL_law 837 = .ok (.iadd, 1) := by decide +kernel
theorem dL_law_838 : decode cL_law 838 = .ok (.iaload, 1) := by decide +kernel
theorem dL_law_839 : decode cL_law 839 = .ok (.invokevirtual 97, 3) := by decide +kernel
theorem dL_law_842 : decode cL_law 842 = .ok (.if_icmp .eq 5, 3) := by decide +kernel
theorem dL_law_845 : decode cL_law 845 = .ok (.iconst 0, 1) := by decide +kernel
theorem dL_law_846 : decode cL_law 846 = .ok (.ireturn, 1) := by decide +kernel
theorem dL_law_847 : decode cL_law 847 = .ok (.iinc 3 9, 3) := by decide +kernel
theorem dL_law_850 : decode cL_law 850 = .ok (.goto (-832), 3) := by decide +kernel
theorem dL_law_853 : decode cL_law 853 = .ok (.iconst 1, 1) := by decide +kernel
theorem dL_law_854 : decode cL_law 854 = .ok (.ireturn, 1) := by decide +kernel
