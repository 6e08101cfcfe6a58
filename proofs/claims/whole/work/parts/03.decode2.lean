theorem dX3_find_114 : decode cX3_find 114 = .ok (.aload_n 0, 1) := by decide +kernel
theorem dX3_find_115 : decode cX3_find 115 = .ok (.getfield 26, 3) := by decide +kernel
theorem dX3_find_118 : decode cX3_find 118 = .ok (.iload 4, 2) := by decide +kernel
theorem dX3_find_120 : decode cX3_find 120 = .ok (.iload 5, 2) := by decide +kernel
theorem dX3_find_122 : decode cX3_find 122 = .ok (.iload 6, 2) := by decide +kernel
theorem dX3_find_124 : decode cX3_find 124 = .ok (.invokevirtual 191, 3) := by decide +kernel
theorem dX3_find_127 : decode cX3_find 127 = .ok (.ifCond .eq 6, 3) := by decide +kernel
theorem dX3_find_130 : decode cX3_find 130 = .ok (.iload 9, 2) := by decide +kernel
theorem dX3_find_132 : decode cX3_find 132 = .ok (.ireturn, 1) := by decide +kernel
theorem dX3_find_133 : decode cX3_find 133 = .ok (.iinc 9 1, 3) := by decide +kernel
theorem dX3_find_136 : decode cX3_find 136 = .ok (.goto (-49), 3) := by decide +kernel
theorem dX3_find_139 : decode cX3_find 139 = .ok (.bipush (-9), 2) := by decide +kernel
theorem dX3_find_141 : decode cX3_find 141 = .ok (.ireturn, 1) := by decide +kernel
theorem dX3_even_0 : decode cX3_even 0 = .ok (.aload_n 0, 1) := by decide +kernel
theorem dX3_even_1 : decode cX3_even 1 = .ok (.iload_n 1, 1) := by decide +kernel
theorem dX3_even_2 : decode cX3_even 2 = .ok (.invokevirtual 90, 3) := by decide +kernel
theorem dX3_even_5 : decode cX3_even 5 = .ok (.astore_n 2, 1) := by decide +kernel
theorem dX3_even_6 : decode cX3_even 6 = .ok (.aload_n 2, 1) := by decide +kernel
theorem dX3_even_7 : decode cX3_even 7 = .ok (.ifnull 16, 3) := by decide +kernel
theorem dX3_even_10 : decode cX3_even 10 = .ok (.aload_n 2, 1) := by decide +kernel
theorem dX3_even_11 : decode cX3_even 11 = .ok (.getfield 131, 3) := by decide +kernel
theorem dX3_even_14 : decode cX3_even 14 = .ok (.getfield 195, 3) := by decide +kernel
theorem dX3_even_17 : decode cX3_even 17 = .ok (.bipush 8, 2) := by decide +kernel
theorem dX3_even_19 : decode cX3_even 19 = .ok (.baload, 1) := by decide +kernel
theorem dX3_even_20 : decode cX3_even 20 = .ok (.ifCond .eq 5, 3) := by decide +kernel
theorem dX3_even_23 : decode cX3_even 23 = .ok (.iconst 0, 1) := by decide +kernel
theorem dX3_even_24 : decode cX3_even 24 = .ok (.ireturn, 1) := by decide +kernel
theorem dX3_even_25 : decode cX3_even 25 = .ok (.aload_n 2, 1) := by decide +kernel
theorem dX3_even_26 : decode cX3_even 26 = .ok (.getfield 131, 3) := by decide +kernel
theorem dX3_even_29 : decode cX3_even 29 = .ok (.getfield 199, 3) := by decide +kernel
theorem dX3_even_32 : decode cX3_even 32 = .ok (.bipush 8, 2) := by decide +kernel
theorem dX3_even_34 : decode cX3_even 34 = .ok (.iaload, 1) := by decide +kernel
theorem dX3_even_35 : decode cX3_even 35 = .ok (.aload_n 2, 1) := by decide +kernel
theorem dX3_even_36 : decode cX3_even 36 = .ok (.getfield 131, 3) := by decide +kernel
theorem dX3_even_39 : decode cX3_even 39 = .ok (.getfield 202, 3) := by decide +kernel
theorem dX3_even_42 : decode cX3_even 42 = .ok (.bipush 8, 2) := by decide +kernel
theorem dX3_even_44 : decode cX3_even 44 = .ok (.iaload, 1) := by decide +kernel
theorem dX3_even_45 : decode cX3_even 45 = .ok (.isub, 1) := by decide +kernel
theorem dX3_even_46 : decode cX3_even 46 = .ok (.invokestatic 205, 3) := by decide +kernel
theorem dX3_even_49 : decode cX3_even 49 = .ok (.aload_n 0, 1) := by decide +kernel
theorem dX3_even_50 : decode cX3_even 50 = .ok (.getfield 50, 3) := by decide +kernel
theorem dX3_even_53 : decode cX3_even 53 = .ok (.if_icmp .gt 7, 3) := by decide +kernel
theorem dX3_even_56 : decode cX3_even 56 = .ok (.iconst 1, 1) := by decide +kernel
theorem dX3_even_57 : decode cX3_even 57 = .ok (.goto 4, 3) := by decide +kernel
theorem dX3_even_60 : decode cX3_even 60 = .ok (.iconst 0, 1) := by decide +kernel
theorem dX3_even_61 : decode cX3_even 61 = .ok (.ireturn, 1) := by decide +kernel
theorem dX3_partOf_0 : decode cX3_partOf 0 = .ok (.aload_n 0, 1) := by decide +kernel
theorem dX3_partOf_1 : decode cX3_partOf 1 = .ok (.iload_n 1, 1) := by decide +kernel
theorem dX3_partOf_2 : decode cX3_partOf 2 = .ok (.invokevirtual 208, 3) := by decide +kernel
theorem dX3_partOf_5 : decode cX3_partOf 5 = .ok (.astore_n 3, 1) := by decide +kernel
theorem dX3_partOf_6 : decode cX3_partOf 6 = .ok (.aload_n 3, 1) := by decide +kernel
theorem dX3_partOf_7 : decode cX3_partOf 7 = .ok (.ifnonnull 9, 3) := by decide +kernel
theorem dX3_partOf_10 : decode cX3_partOf 10 = .ok (.aload_n 0, 1) := by decide +kernel
theorem dX3_partOf_11 : decode cX3_partOf 11 = .ok (.iconst (-1), 1) := by decide +kernel
theorem dX3_partOf_12 : decode cX3_partOf 12 = .ok (.invokevirtual 62, 3) := by decide +kernel
theorem dX3_partOf_15 : decode cX3_partOf 15 = .ok (.ireturn, 1) := by decide +kernel
theorem dX3_partOf_16 : decode cX3_partOf 16 = .ok (.iload_n 2, 1) := by decide +kernel
theorem dX3_partOf_17 : decode cX3_partOf 17 = .ok (.tableswitch 128 0 9 #[55, 60, 65, 70, 75, 80, 88, 96, 109, 122], 55) := by decide +kernel
theorem dX3_partOf_72 : decode cX3_partOf 72 = .ok (.aload_n 3, 1) := by decide +kernel
theorem dX3_partOf_73 : decode cX3_partOf 73 = .ok (.getfield 211, 3) := by decide +kernel
theorem dX3_partOf_76 : decode cX3_partOf 76 = .ok (.ireturn, 1) := by decide +kernel
theorem dX3_partOf_77 : decode cX3_partOf 77 = .ok (.aload_n 3, 1) := by decide +kernel
theorem dX3_partOf_78 : decode cX3_partOf 78 = .ok (.getfield 214, 3) := by decide +kernel
theorem dX3_partOf_81 : decode cX3_partOf 81 = .ok (.ireturn, 1) := by decide +kernel
theorem dX3_partOf_82 : decode cX3_partOf 82 = .ok (.aload_n 3, 1) := by decide +kernel
theorem dX3_partOf_83 : decode cX3_partOf 83 = .ok (.getfield 217, 3) := by decide +kernel
theorem dX3_partOf_86 : decode cX3_partOf 86 = .ok (.ireturn, 1) := by decide +kernel
theorem dX3_partOf_87 : decode cX3_partOf 87 = .ok (.aload_n 3, 1) := by decide +kernel
theorem dX3_partOf_88 : decode cX3_partOf 88 = .ok (.getfield 220, 3) := by decide +kernel
theorem dX3_partOf_91 : decode cX3_partOf 91 = .ok (.ireturn, 1) := by decide +kernel
theorem dX3_partOf_92 : decode cX3_partOf 92 = .ok (.aload_n 3, 1) := by decide +kernel
theorem dX3_partOf_93 : decode cX3_partOf 93 = .ok (.getfield 223, 3) := by decide +kernel
theorem dX3_partOf_96 : decode cX3_partOf 96 = .ok (.ireturn, 1) := by decide +kernel
theorem dX3_partOf_97 : decode cX3_partOf 97 = .ok (.aload_n 3, 1) := by decide +kernel
theorem dX3_partOf_98 : decode cX3_partOf 98 = .ok (.getfield 226, 3) := by decide +kernel
theorem dX3_partOf_101 : decode cX3_partOf 101 = .ok (.getfield 142, 3) := by decide +kernel
theorem dX3_partOf_104 : decode cX3_partOf 104 = .ok (.ireturn, 1) := by decide +kernel
theorem dX3_partOf_105 : decode cX3_partOf 105 = .ok (.aload_n 3, 1) := by decide +kernel
theorem dX3_partOf_106 : decode cX3_partOf 106 = .ok (.getfield 230, 3) := by decide +kernel
theorem dX3_partOf_109 : decode cX3_partOf 109 = .ok (.getfield 142, 3) := by decide +kernel
theorem dX3_partOf_112 : decode cX3_partOf 112 = .ok (.ireturn, 1) := by decide +kernel
theorem dX3_partOf_113 : decode cX3_partOf 113 = .ok (.aload_n 3, 1) := by decide +kernel
theorem dX3_partOf_114 : decode cX3_partOf 114 = .ok (.getfield 77, 3) := by decide +kernel
theorem dX3_partOf_117 : decode cX3_partOf 117 = .ok (.ifCond .eq 7, 3) := by decide +kernel
theorem dX3_partOf_120 : decode cX3_partOf 120 = .ok (.iconst 1, 1) := by decide +kernel
theorem dX3_partOf_121 : decode cX3_partOf 121 = .ok (.goto 4, 3) := by decide +kernel
theorem dX3_partOf_124 : decode cX3_partOf 124 = .ok (.iconst 0, 1) := by decide +kernel
theorem dX3_partOf_125 : decode cX3_partOf 125 = .ok (.ireturn, 1) := by decide +kernel
theorem dX3_partOf_126 : decode cX3_partOf 126 = .ok (.aload_n 3, 1) := by decide +kernel
theorem dX3_partOf_127 : decode cX3_partOf 127 = .ok (.getfield 97, 3) := by decide +kernel
theorem dX3_partOf_130 : decode cX3_partOf 130 = .ok (.ifCond .eq 7, 3) := by decide +kernel
theorem dX3_partOf_133 : decode cX3_partOf 133 = .ok (.iconst 1, 1) := by decide +kernel
theorem dX3_partOf_134 : decode cX3_partOf 134 = .ok (.goto 4, 3) := by decide +kernel
theorem dX3_partOf_137 : decode cX3_partOf 137 = .ok (.iconst 0, 1) := by decide +kernel
theorem dX3_partOf_138 : decode cX3_partOf 138 = .ok (.ireturn, 1) := by decide +kernel
theorem dX3_partOf_139 : decode cX3_partOf 139 = .ok (.aload_n 0, 1) := by decide +kernel
theorem dX3_partOf_140 : decode cX3_partOf 140 = .ok (.iload_n 1, 1) := by decide +kernel
theorem dX3_partOf_141 : decode cX3_partOf 141 = .ok (.invokevirtual 94, 3) := by decide +kernel
theorem dX3_partOf_144 : decode cX3_partOf 144 = .ok (.ireturn, 1) := by decide +kernel
theorem dX3_partOf_145 : decode cX3_partOf 145 = .ok (.aload_n 0, 1) := by decide +kernel
theorem dX3_partOf_146 : decode cX3_partOf 146 = .ok (.bipush (-2), 2) := by decide +kernel
theorem dX3_partOf_148 : decode cX3_partOf 148 = .ok (.invokevirtual 62, 3) := by decide +kernel
theorem dX3_partOf_151 : decode cX3_partOf 151 = .ok (.ireturn, 1) := by decide +kernel
theorem dX3_count_0 : decode cX3_count 0 = .ok (.iload_n 1, 1) := by decide +kernel
theorem dX3_count_1 : decode cX3_count 1 = .ok (.tableswitch 127 0 16 #[83, 88, 93, 98, 112, 127, 127, 127, 127, 127, 127, 117, 117, 117, 117, 117, 117], 83) := by decide +kernel
theorem dX3_count_84 : decode cX3_count 84 = .ok (.aload_n 0, 1) := by decide +kernel
theorem dX3_count_85 : decode cX3_count 85 = .ok (.getfield 66, 3) := by decide +kernel
theorem dX3_count_88 : decode cX3_count 88 = .ok (.ireturn, 1) := by decide +kernel
theorem dX3_count_89 : decode cX3_count 89 = .ok (.aload_n 0, 1) := by decide +kernel
theorem dX3_count_90 : decode cX3_count 90 = .ok (.getfield 175, 3) := by decide +kernel
theorem dX3_count_93 : decode cX3_count 93 = .ok (.ireturn, 1) := by decide +kernel
theorem dX3_count_94 : decode cX3_count 94 = .ok (.aload_n 0, 1) := by decide +kernel
theorem dX3_count_95 : decode cX3_count 95 = .ok (.invokevirtual 58, 3) := by decide +kernel
theorem dX3_count_98 : decode cX3_count 98 = .ok (.ireturn, 1) := by decide +kernel
theorem dX3_count_99 : decode cX3_count 99 = .ok (.aload_n 0, 1) := by decide +kernel
theorem dX3_count_100 : decode cX3_count 100 = .ok (.iconst 0, 1) := by decide +kernel
theorem dX3_count_101 : decode cX3_count 101 = .ok (.invokevirtual 155, 3) := by decide +kernel
theorem dX3_count_104 : decode cX3_count 104 = .ok (.ifCond .ne 7, 3) := by decide +kernel
theorem dX3_count_107 : decode cX3_count 107 = .ok (.iconst 1, 1) := by decide +kernel
theorem dX3_count_108 : decode cX3_count 108 = .ok (.goto 4, 3) := by decide +kernel
theorem dX3_count_111 : decode cX3_count 111 = .ok (.iconst 0, 1) := by decide +kernel
theorem dX3_count_112 : decode cX3_count 112 = .ok (.ireturn, 1) := by decide +kernel
theorem dX3_count_113 : decode cX3_count 113 = .ok (.aload_n 0, 1) := by decide +kernel
theorem dX3_count_114 : decode cX3_count 114 = .ok (.invokevirtual 233, 3) := by decide +kernel
theorem dX3_count_117 : decode cX3_count 117 = .ok (.ireturn, 1) := by decide +kernel
theorem dX3_count_118 : decode cX3_count 118 = .ok (.aload_n 0, 1) := by decide +kernel
theorem dX3_count_119 : decode cX3_count 119 = .ok (.getfield 21, 3) := by decide +kernel
theorem dX3_count_122 : decode cX3_count 122 = .ok (.iload_n 1, 1) := by decide +kernel
theorem dX3_count_123 : decode cX3_count 123 = .ok (.bipush 10, 2) := by decide +kernel
theorem dX3_count_125 : decode cX3_count 125 = .ok (.isub, 1) := by decide +kernel
theorem dX3_count_126 : decode cX3_count 126 = .ok (.iaload, 1) := by decide +kernel
theorem dX3_count_127 : decode cX3_count 127 = .ok (.ireturn, 1) := by decide +kernel
theorem dX3_count_128 : decode cX3_count 128 = .ok (.bipush (-9), 2) := by decide +kernel
theorem dX3_count_130 : decode cX3_count 130 = .ok (.ireturn, 1) := by decide +kernel
theorem dX3_nearest_0 : decode cX3_nearest 0 = .ok (.lload_n 2, 1) := by decide +kernel
theorem dX3_nearest_1 : decode cX3_nearest 1 = .ok (.lconst 0, 1) := by decide +kernel
theorem dX3_nearest_2 : decode cX3_nearest 2 = .ok (.lcmp, 1) := by decide +kernel
theorem dX3_nearest_3 : decode cX3_nearest 3 = .ok (.ifCond .gt 5, 3) := by decide +kernel
theorem dX3_nearest_6 : decode cX3_nearest 6 = .ok (.iconst 0, 1) := by decide +kernel
theorem dX3_nearest_7 : decode cX3_nearest 7 = .ok (.ireturn, 1) := by decide +kernel
theorem dX3_nearest_8 : decode cX3_nearest 8 = .ok (.ldc2_w 236, 3) := by decide +kernel
theorem dX3_nearest_11 : decode cX3_nearest 11 = .ok (.lload_n 0, 1) := by decide +kernel
theorem dX3_nearest_12 : decode cX3_nearest 12 = .ok (.lmul, 1) := by decide +kernel
theorem dX3_nearest_13 : decode cX3_nearest 13 = .ok (.lload_n 2, 1) := by decide +kernel
theorem dX3_nearest_14 : decode cX3_nearest 14 = .ok (.ladd, 1) := by decide +kernel
theorem dX3_nearest_15 : decode cX3_nearest 15 = .ok (.ldc2_w 236, 3) := by decide +kernel
theorem dX3_nearest_18 : decode cX3_nearest 18 = .ok (.lload_n 2, 1) := by decide +kernel
theorem dX3_nearest_19 : decode cX3_nearest 19 = .ok (.lmul, 1) := by decide +kernel
theorem dX3_nearest_20 : decode cX3_nearest 20 = .ok (.invokestatic 238, 3) := by decide +kernel
theorem dX3_nearest_23 : decode cX3_nearest 23 = .ok (.l2i, 1) := by decide +kernel
theorem dX3_nearest_24 : decode cX3_nearest 24 = .ok (.ireturn, 1) := by decide +kernel
theorem dX3_rootBelow_0 : decode cX3_rootBelow 0 = .ok (.lconst 0, 1) := by decide +kernel
theorem dX3_rootBelow_1 : decode cX3_rootBelow 1 = .ok (.lstore_n 2, 1) := by decide +kernel
theorem dX3_rootBelow_2 : decode cX3_rootBelow 2 = .ok (.bipush 20, 2) := by decide +kernel
theorem dX3_rootBelow_4 : decode cX3_rootBelow 4 = .ok (.istore 4, 2) := by decide +kernel
theorem dX3_rootBelow_6 : decode cX3_rootBelow 6 = .ok (.iload 4, 2) := by decide +kernel
theorem dX3_rootBelow_8 : decode cX3_rootBelow 8 = .ok (.ifCond .lt 30, 3) := by decide +kernel
theorem dX3_rootBelow_11 : decode cX3_rootBelow 11 = .ok (.lload_n 2, 1) := by decide +kernel
theorem dX3_rootBelow_12 : decode cX3_rootBelow 12 = .ok (.lconst 1, 1) := by decide +kernel
theorem dX3_rootBelow_13 : decode cX3_rootBelow 13 = .ok (.iload 4, 2) := by decide +kernel
theorem dX3_rootBelow_15 : decode cX3_rootBelow 15 = .ok (.lshl, 1) := by decide +kernel
theorem dX3_rootBelow_16 : decode cX3_rootBelow 16 = .ok (.ladd, 1) := by decide +kernel
theorem dX3_rootBelow_17 : decode cX3_rootBelow 17 = .ok (.lstore 5, 2) := by decide +kernel
theorem dX3_rootBelow_19 : decode cX3_rootBelow 19 = .ok (.lload 5, 2) := by decide +kernel
theorem dX3_rootBelow_21 : decode cX3_rootBelow 21 = .ok (.lload 5, 2) := by decide +kernel
theorem dX3_rootBelow_23 : decode cX3_rootBelow 23 = .ok (.lmul, 1) := by decide +kernel
theorem dX3_rootBelow_24 : decode cX3_rootBelow 24 = .ok (.lload_n 0, 1) := by decide +kernel
theorem dX3_rootBelow_25 : decode cX3_rootBelow 25 = .ok (.lcmp, 1) := by decide +kernel
theorem dX3_rootBelow_26 : decode cX3_rootBelow 26 = .ok (.ifCond .gt 6, 3) := by decide +kernel
theorem dX3_rootBelow_29 : decode cX3_rootBelow 29 = .ok (.lload 5, 2) := by decide +kernel
theorem dX3_rootBelow_31 : decode cX3_rootBelow 31 = .ok (.lstore_n 2, 1) := by decide +kernel
theorem dX3_rootBelow_32 : decode cX3_rootBelow 32 = .ok (.iinc 4 (-1), 3) := by decide +kernel
theorem dX3_rootBelow_35 : decode cX3_rootBelow 35 = .ok (.goto (-29), 3) := by decide +kernel
theorem dX3_rootBelow_38 : decode cX3_rootBelow 38 = .ok (.lload_n 2, 1) := by decide +kernel
theorem dX3_rootBelow_39 : decode cX3_rootBelow 39 = .ok (.lreturn, 1) := by decide +kernel
theorem dX3_isStep_0 : decode cX3_isStep 0 = .ok (.iload_n 0, 1) := by decide +kernel
theorem dX3_isStep_1 : decode cX3_isStep 1 = .ok (.ifCond .lt 13, 3) := by decide +kernel
theorem dX3_isStep_4 : decode cX3_isStep 4 = .ok (.iload_n 0, 1) := by decide +kernel
theorem dX3_isStep_5 : decode cX3_isStep 5 = .ok (.bipush 17, 2) := by decide +kernel
theorem dX3_isStep_7 : decode cX3_isStep 7 = .ok (.if_icmp .ge 7, 3) := by decide +kernel
theorem dX3_isStep_10 : decode cX3_isStep 10 = .ok (.iconst 1, 1) := by decide +kernel
theorem dX3_isStep_11 : decode cX3_isStep 11 = .ok (.goto 4, 3) := by decide +kernel
theorem dX3_isStep_14 : decode cX3_isStep 14 = .ok (.iconst 0, 1) := by decide +kernel
theorem dX3_isStep_15 : decode cX3_isStep 15 = .ok (.ireturn, 1) := by decide +kernel
theorem dX3_coordinate_0 : decode cX3_coordinate 0 = .ok (.aload_n 0, 1) := by decide +kernel
theorem dX3_coordinate_1 : decode cX3_coordinate 1 = .ok (.getfield 195, 3) := by decide +kernel
theorem dX3_coordinate_4 : decode cX3_coordinate 4 = .ok (.iload_n 1, 1) := by decide +kernel
theorem dX3_coordinate_5 : decode cX3_coordinate 5 = .ok (.baload, 1) := by decide +kernel
theorem dX3_coordinate_6 : decode cX3_coordinate 6 = .ok (.ifCond .eq 6, 3) := by decide +kernel
theorem dX3_coordinate_9 : decode cX3_coordinate 9 = .ok (.ldc 242, 2) := by decide +kernel
theorem dX3_coordinate_11 : decode cX3_coordinate 11 = .ok (.ireturn, 1) := by decide +kernel
theorem dX3_coordinate_12 : decode cX3_coordinate 12 = .ok (.iload_n 2, 1) := by decide +kernel
theorem dX3_coordinate_13 : decode cX3_coordinate 13 = .ok (.ifCond .ne 12, 3) := by decide +kernel
theorem dX3_coordinate_16 : decode cX3_coordinate 16 = .ok (.aload_n 0, 1) := by decide +kernel
theorem dX3_coordinate_17 : decode cX3_coordinate 17 = .ok (.getfield 199, 3) := by decide +kernel
theorem dX3_coordinate_20 : decode cX3_coordinate 20 = .ok (.iload_n 1, 1) := by decide +kernel
theorem dX3_coordinate_21 : decode cX3_coordinate 21 = .ok (.iaload, 1) := by decide +kernel
theorem dX3_coordinate_22 : decode cX3_coordinate 22 = .ok (.goto 9, 3) := by decide +kernel
theorem dX3_coordinate_25 : decode cX3_coordinate 25 = .ok (.aload_n 0, 1) := by decide +kernel
theorem dX3_coordinate_26 : decode cX3_coordinate 26 = .ok (.getfield 202, 3) := by decide +kernel
theorem dX3_coordinate_29 : decode cX3_coordinate 29 = .ok (.iload_n 1, 1) := by decide +kernel
theorem dX3_coordinate_30 : decode cX3_coordinate 30 = .ok (.iaload, 1) := by decide +kernel
theorem dX3_coordinate_31 : decode cX3_coordinate 31 = .ok (.ireturn, 1) := by decide +kernel
theorem dX3_refuse_0 : decode cX3_refuse 0 = .ok (.iload_n 1, 1) := by decide +kernel
theorem dX3_refuse_1 : decode cX3_refuse 1 = .ok (.ineg, 1) := by decide +kernel
theorem dX3_refuse_2 : decode cX3_refuse 2 = .ok (.istore_n 2, 1) := by decide +kernel
theorem dX3_refuse_3 : decode cX3_refuse 3 = .ok (.iload_n 2, 1) := by decide +kernel
theorem dX3_refuse_4 : decode cX3_refuse 4 = .ok (.ifCond .le 19, 3) := by decide +kernel
theorem dX3_refuse_7 : decode cX3_refuse 7 = .ok (.iload_n 2, 1) := by decide +kernel
theorem dX3_refuse_8 : decode cX3_refuse 8 = .ok (.bipush 7, 2) := by decide +kernel
theorem dX3_refuse_10 : decode cX3_refuse 10 = .ok (.if_icmp .ge 13, 3) := by decide +kernel
theorem dX3_refuse_13 : decode cX3_refuse 13 = .ok (.aload_n 0, 1) := by decide +kernel
theorem dX3_refuse_14 : decode cX3_refuse 14 = .ok (.getfield 21, 3) := by decide +kernel
theorem dX3_refuse_17 : decode cX3_refuse 17 = .ok (.iload_n 2, 1) := by decide +kernel
theorem dX3_refuse_18 : decode cX3_refuse 18 = .ok (.dup2, 1) := by decide +kernel
theorem dX3_refuse_19 : decode cX3_refuse 19 = .ok (.iaload, 1) := by decide +kernel
theorem dX3_refuse_20 : decode cX3_refuse 20 = .ok (.iconst 1, 1) := by decide +kernel
theorem dX3_refuse_21 : decode cX3_refuse 21 = .ok (.iadd, 1) := by decide +kernel
theorem dX3_refuse_22 : decode cX3_refuse 22 = .ok (.iastore, 1) := by decide +kernel
theorem dX3_refuse_23 : decode cX3_refuse 23 = .ok (.iload_n 1, 1) := by decide +kernel
theorem dX3_refuse_24 : decode cX3_refuse 24 = .ok (.ireturn, 1) := by decide +kernel
theorem dX3_refuseApart_0 : decode cX3_refuseApart 0 = .ok (.ldc 242, 2) := by decide +kernel
theorem dX3_refuseApart_2 : decode cX3_refuseApart 2 = .ok (.aload_n 0, 1) := by decide +kernel
theorem dX3_refuseApart_3 : decode cX3_refuseApart 3 = .ok (.iload_n 1, 1) := by decide +kernel
theorem dX3_refuseApart_4 : decode cX3_refuseApart 4 = .ok (.invokevirtual 62, 3) := by decide +kernel
theorem dX3_refuseApart_7 : decode cX3_refuseApart 7 = .ok (.isub, 1) := by decide +kernel
theorem dX3_refuseApart_8 : decode cX3_refuseApart 8 = .ok (.ireturn, 1) := by decide +kernel
theorem dX3_partEver_0 : decode cX3_partEver 0 = .ok (.iload_n 1, 1) := by decide +kernel
theorem dX3_partEver_1 : decode cX3_partEver 1 = .ok (.ifCond .lt 26, 3) := by decide +kernel
theorem dX3_partEver_4 : decode cX3_partEver 4 = .ok (.iload_n 1, 1) := by decide +kernel
theorem dX3_partEver_5 : decode cX3_partEver 5 = .ok (.aload_n 0, 1) := by decide +kernel
theorem dX3_partEver_6 : decode cX3_partEver 6 = .ok (.getfield 175, 3) := by decide +kernel
theorem dX3_partEver_9 : decode cX3_partEver 9 = .ok (.if_icmp .ge 18, 3) := by decide +kernel
theorem dX3_partEver_12 : decode cX3_partEver 12 = .ok (.iload_n 1, 1) := by decide +kernel
theorem dX3_partEver_13 : decode cX3_partEver 13 = .ok (.bipush 30, 2) := by decide +kernel
theorem dX3_partEver_15 : decode cX3_partEver 15 = .ok (.if_icmp .ge 12, 3) := by decide +kernel
theorem dX3_partEver_18 : decode cX3_partEver 18 = .ok (.aload_n 0, 1) := by decide +kernel
theorem dX3_partEver_19 : decode cX3_partEver 19 = .ok (.getfield 11, 3) := by decide +kernel
theorem dX3_partEver_22 : decode cX3_partEver 22 = .ok (.iload_n 1, 1) := by decide +kernel
theorem dX3_partEver_23 : decode cX3_partEver 23 = .ok (.aaload, 1) := by decide +kernel
theorem dX3_partEver_24 : decode cX3_partEver 24 = .ok (.goto 4, 3) := by decide +kernel
theorem dX3_partEver_27 : decode cX3_partEver 27 = .ok (.aconst_null, 1) := by decide +kernel
theorem dX3_partEver_28 : decode cX3_partEver 28 = .ok (.areturn, 1) := by decide +kernel
theorem dX3_partThere_0 : decode cX3_partThere 0 = .ok (.aload_n 0, 1) := by decide +kernel
theorem dX3_partThere_1 : decode cX3_partThere 1 = .ok (.iload_n 1, 1) := by decide +kernel
theorem dX3_partThere_2 : decode cX3_partThere 2 = .ok (.invokevirtual 208, 3) := by decide +kernel
theorem dX3_partThere_5 : decode cX3_partThere 5 = .ok (.astore_n 2, 1) := by decide +kernel
theorem dX3_partThere_6 : decode cX3_partThere 6 = .ok (.aload_n 2, 1) := by decide +kernel
theorem dX3_partThere_7 : decode cX3_partThere 7 = .ok (.ifnull 14, 3) := by decide +kernel
theorem dX3_partThere_10 : decode cX3_partThere 10 = .ok (.aload_n 2, 1) := by decide +kernel
theorem dX3_partThere_11 : decode cX3_partThere 11 = .ok (.getfield 97, 3) := by decide +kernel
theorem dX3_partThere_14 : decode cX3_partThere 14 = .ok (.ifCond .eq 7, 3) := by decide +kernel
theorem dX3_partThere_17 : decode cX3_partThere 17 = .ok (.aload_n 2, 1) := by decide +kernel
theorem dX3_partThere_18 : decode cX3_partThere 18 = .ok (.goto 4, 3) := by decide +kernel
theorem dX3_partThere_21 : decode cX3_partThere 21 = .ok (.aconst_null, 1) := by decide +kernel
theorem dX3_partThere_22 : decode cX3_partThere 22 = .ok (.areturn, 1) := by decide +kernel
theorem dX3_planeThere_0 : decode cX3_planeThere 0 = .ok (.iload_n 1, 1) := by decide +kernel
theorem dX3_planeThere_1 : decode cX3_planeThere 1 = .ok (.ifCond .lt 18, 3) := by decide +kernel
theorem dX3_planeThere_4 : decode cX3_planeThere 4 = .ok (.iload_n 1, 1) := by decide +kernel
theorem dX3_planeThere_5 : decode cX3_planeThere 5 = .ok (.bipush 62, 2) := by decide +kernel
theorem dX3_planeThere_7 : decode cX3_planeThere 7 = .ok (.if_icmp .ge 12, 3) := by decide +kernel
theorem dX3_planeThere_10 : decode cX3_planeThere 10 = .ok (.aload_n 0, 1) := by decide +kernel
theorem dX3_planeThere_11 : decode cX3_planeThere 11 = .ok (.getfield 17, 3) := by decide +kernel
theorem dX3_planeThere_14 : decode cX3_planeThere 14 = .ok (.iload_n 1, 1) := by decide +kernel
theorem dX3_planeThere_15 : decode cX3_planeThere 15 = .ok (.aaload, 1) := by decide +kernel
theorem dX3_planeThere_16 : decode cX3_planeThere 16 = .ok (.goto 4, 3) := by decide +kernel
theorem dX3_planeThere_19 : decode cX3_planeThere 19 = .ok (.aconst_null, 1) := by decide +kernel
theorem dX3_planeThere_20 : decode cX3_planeThere 20 = .ok (.areturn, 1) := by decide +kernel
theorem dX3_planesEver_0 : decode cX3_planesEver 0 = .ok (.iconst 2, 1) := by decide +kernel
theorem dX3_planesEver_1 : decode cX3_planesEver 1 = .ok (.iconst 2, 1) := by decide +kernel
theorem dX3_planesEver_2 : decode cX3_planesEver 2 = .ok (.aload_n 0, 1) := by decide +kernel
theorem dX3_planesEver_3 : decode cX3_planesEver 3 = .ok (.getfield 175, 3) := by decide +kernel
theorem dX3_planesEver_6 : decode cX3_planesEver 6 = .ok (.imul, 1) := by decide +kernel
theorem dX3_planesEver_7 : decode cX3_planesEver 7 = .ok (.iadd, 1) := by decide +kernel
theorem dX3_planesEver_8 : decode cX3_planesEver 8 = .ok (.ireturn, 1) := by decide +kernel
theorem dX3_sizeOf_0 : decode cX3_sizeOf 0 = .ok (.aload_n 0, 1) := by decide +kernel
theorem dX3_sizeOf_1 : decode cX3_sizeOf 1 = .ok (.iload_n 1, 1) := by decide +kernel
theorem dX3_sizeOf_2 : decode cX3_sizeOf 2 = .ok (.invokevirtual 138, 3) := by decide +kernel
theorem dX3_sizeOf_5 : decode cX3_sizeOf 5 = .ok (.astore_n 2, 1) := by decide +kernel
theorem dX3_sizeOf_6 : decode cX3_sizeOf 6 = .ok (.aload_n 2, 1) := by decide +kernel
theorem dX3_sizeOf_7 : decode cX3_sizeOf 7 = .ok (.ifnonnull 7, 3) := by decide +kernel
theorem dX3_sizeOf_10 : decode cX3_sizeOf 10 = .ok (.iconst 0, 1) := by decide +kernel
theorem dX3_sizeOf_11 : decode cX3_sizeOf 11 = .ok (.goto 7, 3) := by decide +kernel
theorem dX3_sizeOf_14 : decode cX3_sizeOf 14 = .ok (.aload_n 2, 1) := by decide +kernel
theorem dX3_sizeOf_15 : decode cX3_sizeOf 15 = .ok (.getfield 142, 3) := by decide +kernel
theorem dX3_sizeOf_18 : decode cX3_sizeOf 18 = .ok (.ireturn, 1) := by decide +kernel
theorem dX3_cutLeaves_0 : decode cX3_cutLeaves 0 = .ok (.aload_n 0, 1) := by decide +kernel
theorem dX3_cutLeaves_1 : decode cX3_cutLeaves 1 = .ok (.iload_n 1, 1) := by decide +kernel
theorem dX3_cutLeaves_2 : decode cX3_cutLeaves 2 = .ok (.putfield 66, 3) := by decide +kernel
theorem dX3_cutLeaves_5 : decode cX3_cutLeaves 5 = .ok (.iconst 0, 1) := by decide +kernel
theorem dX3_cutLeaves_6 : decode cX3_cutLeaves 6 = .ok (.istore_n 2, 1) := by decide +kernel
theorem dX3_cutLeaves_7 : decode cX3_cutLeaves 7 = .ok (.iload_n 2, 1) := by decide +kernel
theorem dX3_cutLeaves_8 : decode cX3_cutLeaves 8 = .ok (.iconst 2, 1) := by decide +kernel
theorem dX3_cutLeaves_9 : decode cX3_cutLeaves 9 = .ok (.if_icmp .ge 51, 3) := by decide +kernel
theorem dX3_cutLeaves_12 : decode cX3_cutLeaves 12 = .ok (.aload_n 0, 1) := by decide +kernel
theorem dX3_cutLeaves_13 : decode cX3_cutLeaves 13 = .ok (.iload_n 2, 1) := by decide +kernel
theorem dX3_cutLeaves_14 : decode cX3_cutLeaves 14 = .ok (.invokevirtual 138, 3) := by decide +kernel
theorem dX3_cutLeaves_17 : decode cX3_cutLeaves 17 = .ok (.astore_n 3, 1) := by decide +kernel
theorem dX3_cutLeaves_18 : decode cX3_cutLeaves 18 = .ok (.aload_n 3, 1) := by decide +kernel
theorem dX3_cutLeaves_19 : decode cX3_cutLeaves 19 = .ok (.ifnull 35, 3) := by decide +kernel
theorem dX3_cutLeaves_22 : decode cX3_cutLeaves 22 = .ok (.aload_n 3, 1) := by decide +kernel
theorem dX3_cutLeaves_23 : decode cX3_cutLeaves 23 = .ok (.iload_n 1, 1) := by decide +kernel
theorem dX3_cutLeaves_24 : decode cX3_cutLeaves 24 = .ok (.putfield 142, 3) := by decide +kernel
theorem dX3_cutLeaves_27 : decode cX3_cutLeaves 27 = .ok (.iconst 0, 1) := by decide +kernel
theorem dX3_cutLeaves_28 : decode cX3_cutLeaves 28 = .ok (.istore 4, 2) := by decide +kernel
theorem dX3_cutLeaves_30 : decode cX3_cutLeaves 30 = .ok (.iload 4, 2) := by decide +kernel
theorem dX3_cutLeaves_32 : decode cX3_cutLeaves 32 = .ok (.bipush 17, 2) := by decide +kernel
theorem dX3_cutLeaves_34 : decode cX3_cutLeaves 34 = .ok (.if_icmp .ge 20, 3) := by decide +kernel
theorem dX3_cutLeaves_37 : decode cX3_cutLeaves 37 = .ok (.aload_n 3, 1) := by decide +kernel
theorem dX3_cutLeaves_38 : decode cX3_cutLeaves 38 = .ok (.iload_n 1, 1) := by decide +kernel
theorem dX3_cutLeaves_39 : decode cX3_cutLeaves 39 = .ok (.iload 4, 2) := by decide +kernel
theorem dX3_cutLeaves_41 : decode cX3_cutLeaves 41 = .ok (.aload_n 3, 1) := by decide +kernel
theorem dX3_cutLeaves_42 : decode cX3_cutLeaves 42 = .ok (.getfield 243, 3) := by decide +kernel
theorem dX3_cutLeaves_45 : decode cX3_cutLeaves 45 = .ok (.invokevirtual 145, 3) := by decide +kernel
theorem dX3_cutLeaves_48 : decode cX3_cutLeaves 48 = .ok (.iinc 4 1, 3) := by decide +kernel
theorem dX3_cutLeaves_51 : decode cX3_cutLeaves 51 = .ok (.goto (-21), 3) := by decide +kernel
theorem dX3_cutLeaves_54 : decode cX3_cutLeaves 54 = .ok (.iinc 2 1, 3) := by decide +kernel
theorem dX3_cutLeaves_57 : decode cX3_cutLeaves 57 = .ok (.goto (-50), 3) := by decide +kernel
theorem dX3_cutLeaves_60 : decode cX3_cutLeaves 60 = .ok (.return_, 1) := by decide +kernel
theorem dX3_partsThere_0 : decode cX3_partsThere 0 = .ok (.iconst 0, 1) := by decide +kernel
theorem dX3_partsThere_1 : decode cX3_partsThere 1 = .ok (.istore_n 1, 1) := by decide +kernel
theorem dX3_partsThere_2 : decode cX3_partsThere 2 = .ok (.iconst 0, 1) := by decide +kernel
theorem dX3_partsThere_3 : decode cX3_partsThere 3 = .ok (.istore_n 2, 1) := by decide +kernel
theorem dX3_partsThere_4 : decode cX3_partsThere 4 = .ok (.iload_n 2, 1) := by decide +kernel
theorem dX3_partsThere_5 : decode cX3_partsThere 5 = .ok (.aload_n 0, 1) := by decide +kernel
theorem dX3_partsThere_6 : decode cX3_partsThere 6 = .ok (.getfield 175, 3) := by decide +kernel
theorem dX3_partsThere_9 : decode cX3_partsThere 9 = .ok (.if_icmp .ge 20, 3) := by decide +kernel
theorem dX3_partsThere_12 : decode cX3_partsThere 12 = .ok (.aload_n 0, 1) := by decide +kernel
theorem dX3_partsThere_13 : decode cX3_partsThere 13 = .ok (.iload_n 2, 1) := by decide +kernel
theorem dX3_partsThere_14 : decode cX3_partsThere 14 = .ok (.invokevirtual 90, 3) := by decide +kernel
theorem dX3_partsThere_17 : decode cX3_partsThere 17 = .ok (.ifnull 6, 3) := by decide +kernel
theorem dX3_partsThere_20 : decode cX3_partsThere 20 = .ok (.iinc 1 1, 3) := by decide +kernel
theorem dX3_partsThere_23 : decode cX3_partsThere 23 = .ok (.iinc 2 1, 3) := by decide +kernel
theorem dX3_partsThere_26 : decode cX3_partsThere 26 = .ok (.goto (-22), 3) := by decide +kernel
theorem dX3_partsThere_29 : decode cX3_partsThere 29 = .ok (.iload_n 1, 1) := by decide +kernel
theorem dX3_partsThere_30 : decode cX3_partsThere 30 = .ok (.ireturn, 1) := by decide +kernel
theorem dX3_partsStuck_0 : decode cX3_partsStuck 0 = .ok (.iconst 0, 1) := by decide +kernel
theorem dX3_partsStuck_1 : decode cX3_partsStuck 1 = .ok (.istore_n 1, 1) := by decide +kernel
theorem dX3_partsStuck_2 : decode cX3_partsStuck 2 = .ok (.iconst 0, 1) := by decide +kernel
theorem dX3_partsStuck_3 : decode cX3_partsStuck 3 = .ok (.istore_n 2, 1) := by decide +kernel
theorem dX3_partsStuck_4 : decode cX3_partsStuck 4 = .ok (.iload_n 2, 1) := by decide +kernel
theorem dX3_partsStuck_5 : decode cX3_partsStuck 5 = .ok (.aload_n 0, 1) := by decide +kernel
theorem dX3_partsStuck_6 : decode cX3_partsStuck 6 = .ok (.getfield 175, 3) := by decide +kernel
theorem dX3_partsStuck_9 : decode cX3_partsStuck 9 = .ok (.if_icmp .ge 34, 3) := by decide +kernel
theorem dX3_partsStuck_12 : decode cX3_partsStuck 12 = .ok (.aload_n 0, 1) := by decide +kernel
theorem dX3_partsStuck_13 : decode cX3_partsStuck 13 = .ok (.iload_n 2, 1) := by decide +kernel
theorem dX3_partsStuck_14 : decode cX3_partsStuck 14 = .ok (.invokevirtual 90, 3) := by decide +kernel
theorem dX3_partsStuck_17 : decode cX3_partsStuck 17 = .ok (.astore_n 3, 1) := by decide +kernel
theorem dX3_partsStuck_18 : decode cX3_partsStuck 18 = .ok (.aload_n 3, 1) := by decide +kernel
theorem dX3_partsStuck_19 : decode cX3_partsStuck 19 = .ok (.ifnull 18, 3) := by decide +kernel
theorem dX3_partsStuck_22 : decode cX3_partsStuck 22 = .ok (.aload_n 3, 1) := by decide +kernel
theorem dX3_partsStuck_23 : decode cX3_partsStuck 23 = .ok (.getfield 131, 3) := by decide +kernel
theorem dX3_partsStuck_26 : decode cX3_partsStuck 26 = .ok (.invokevirtual 152, 3) := by decide +kernel
theorem dX3_partsStuck_29 : decode cX3_partsStuck 29 = .ok (.bipush (-9), 2) := by decide +kernel
theorem dX3_partsStuck_31 : decode cX3_partsStuck 31 = .ok (.if_icmp .eq 6, 3) := by decide +kernel
theorem dX3_partsStuck_34 : decode cX3_partsStuck 34 = .ok (.iinc 1 1, 3) := by decide +kernel
theorem dX3_partsStuck_37 : decode cX3_partsStuck 37 = .ok (.iinc 2 1, 3) := by decide +kernel
theorem dX3_partsStuck_40 : decode cX3_partsStuck 40 = .ok (.goto (-36), 3) := by decide +kernel
theorem dX3_partsStuck_43 : decode cX3_partsStuck 43 = .ok (.iload_n 1, 1) := by decide +kernel
theorem dX3_partsStuck_44 : decode cX3_partsStuck 44 = .ok (.ireturn, 1) := by decide +kernel
theorem dX3_hangingOn_0 : decode cX3_hangingOn 0 = .ok (.iconst 2, 1) := by decide +kernel
theorem dX3_hangingOn_1 : decode cX3_hangingOn 1 = .ok (.iconst 2, 1) := by decide +kernel
theorem dX3_hangingOn_2 : decode cX3_hangingOn 2 = .ok (.iload_n 1, 1) := by decide +kernel
theorem dX3_hangingOn_3 : decode cX3_hangingOn 3 = .ok (.imul, 1) := by decide +kernel
theorem dX3_hangingOn_4 : decode cX3_hangingOn 4 = .ok (.iadd, 1) := by decide +kernel
theorem dX3_hangingOn_5 : decode cX3_hangingOn 5 = .ok (.istore_n 2, 1) := by decide +kernel
theorem dX3_hangingOn_6 : decode cX3_hangingOn 6 = .ok (.iconst 0, 1) := by decide +kernel
theorem dX3_hangingOn_7 : decode cX3_hangingOn 7 = .ok (.istore_n 3, 1) := by decide +kernel
theorem dX3_hangingOn_8 : decode cX3_hangingOn 8 = .ok (.iload_n 1, 1) := by decide +kernel
theorem dX3_hangingOn_9 : decode cX3_hangingOn 9 = .ok (.iconst 1, 1) := by decide +kernel
theorem dX3_hangingOn_10 : decode cX3_hangingOn 10 = .ok (.iadd, 1) := by decide +kernel
theorem dX3_hangingOn_11 : decode cX3_hangingOn 11 = .ok (.istore 4, 2) := by decide +kernel
theorem dX3_hangingOn_13 : decode cX3_hangingOn 13 = .ok (.iload 4, 2) := by decide +kernel
theorem dX3_hangingOn_15 : decode cX3_hangingOn 15 = .ok (.aload_n 0, 1) := by decide +kernel
theorem dX3_hangingOn_16 : decode cX3_hangingOn 16 = .ok (.getfield 175, 3) := by decide +kernel
theorem dX3_hangingOn_19 : decode cX3_hangingOn 19 = .ok (.if_icmp .ge 49, 3) := by decide +kernel
theorem dX3_hangingOn_22 : decode cX3_hangingOn 22 = .ok (.aload_n 0, 1) := by decide +kernel
theorem dX3_hangingOn_23 : decode cX3_hangingOn 23 = .ok (.iload 4, 2) := by decide +kernel
theorem dX3_hangingOn_25 : decode cX3_hangingOn 25 = .ok (.invokevirtual 90, 3) := by decide +kernel
theorem dX3_hangingOn_28 : decode cX3_hangingOn 28 = .ok (.astore 5, 2) := by decide +kernel
theorem dX3_hangingOn_30 : decode cX3_hangingOn 30 = .ok (.aload 5, 2) := by decide +kernel
theorem dX3_hangingOn_32 : decode cX3_hangingOn 32 = .ok (.ifnull 30, 3) := by decide +kernel
theorem dX3_hangingOn_35 : decode cX3_hangingOn 35 = .ok (.aload 5, 2) := by decide +kernel
theorem dX3_hangingOn_37 : decode cX3_hangingOn 37 = .ok (.getfield 214, 3) := by decide +kernel
theorem dX3_hangingOn_40 : decode cX3_hangingOn 40 = .ok (.iload_n 2, 1) := by decide +kernel
theorem dX3_hangingOn_41 : decode cX3_hangingOn 41 = .ok (.invokestatic 246, 3) := by decide +kernel
theorem dX3_hangingOn_44 : decode cX3_hangingOn 44 = .ok (.ifCond .ne 15, 3) := by decide +kernel
theorem dX3_hangingOn_47 : decode cX3_hangingOn 47 = .ok (.aload 5, 2) := by decide +kernel
theorem dX3_hangingOn_49 : decode cX3_hangingOn 49 = .ok (.getfield 220, 3) := by decide +kernel
theorem dX3_hangingOn_52 : decode cX3_hangingOn 52 = .ok (.iload_n 2, 1) := by decide +kernel
theorem dX3_hangingOn_53 : decode cX3_hangingOn 53 = .ok (.invokestatic 246, 3) := by decide +kernel
theorem dX3_hangingOn_56 : decode cX3_hangingOn 56 = .ok (.ifCond .eq 6, 3) := by decide +kernel
theorem dX3_hangingOn_59 : decode cX3_hangingOn 59 = .ok (.iinc 3 1, 3) := by decide +kernel
theorem dX3_hangingOn_62 : decode cX3_hangingOn 62 = .ok (.iinc 4 1, 3) := by decide +kernel
theorem dX3_hangingOn_65 : decode cX3_hangingOn 65 = .ok (.goto (-52), 3) := by decide +kernel
theorem dX3_hangingOn_68 : decode cX3_hangingOn 68 = .ok (.iload_n 3, 1) := by decide +kernel
theorem dX3_hangingOn_69 : decode cX3_hangingOn 69 = .ok (.ireturn, 1) := by decide +kernel
theorem dX3_isOneOfPair_0 : decode cX3_isOneOfPair 0 = .ok (.iload_n 0, 1) := by decide +kernel
theorem dX3_isOneOfPair_1 : decode cX3_isOneOfPair 1 = .ok (.iload_n 1, 1) := by decide +kernel
theorem dX3_isOneOfPair_2 : decode cX3_isOneOfPair 2 = .ok (.if_icmp .eq 10, 3) := by decide +kernel
theorem dX3_isOneOfPair_5 : decode cX3_isOneOfPair 5 = .ok (.iload_n 0, 1) := by decide +kernel
theorem dX3_isOneOfPair_6 : decode cX3_isOneOfPair 6 = .ok (.iload_n 1, 1) := by decide +kernel
theorem dX3_isOneOfPair_7 : decode cX3_isOneOfPair 7 = .ok (.iconst 1, 1) := by decide +kernel
theorem dX3_isOneOfPair_8 : decode cX3_isOneOfPair 8 = .ok (.iadd, 1) := by decide +kernel
theorem dX3_isOneOfPair_9 : decode cX3_isOneOfPair 9 = .ok (.if_icmp .ne 7, 3) := by decide +kernel
theorem dX3_isOneOfPair_12 : decode cX3_isOneOfPair 12 = .ok (.iconst 1, 1) := by decide +kernel
theorem dX3_isOneOfPair_13 : decode cX3_isOneOfPair 13 = .ok (.goto 4, 3) := by decide +kernel
theorem dX3_isOneOfPair_16 : decode cX3_isOneOfPair 16 = .ok (.iconst 0, 1) := by decide +kernel
theorem dX3_isOneOfPair_17 : decode cX3_isOneOfPair 17 = .ok (.ireturn, 1) := by decide +kernel
theorem dX3_judgeTrial_0 : decode cX3_judgeTrial 0 = .ok (.aload_n 0, 1) := by decide +kernel
theorem dX3_judgeTrial_1 : decode cX3_judgeTrial 1 = .ok (.aload_n 0, 1) := by decide +kernel
theorem dX3_judgeTrial_2 : decode cX3_judgeTrial 2 = .ok (.getfield 26, 3) := by decide +kernel
theorem dX3_judgeTrial_5 : decode cX3_judgeTrial 5 = .ok (.getfield 214, 3) := by decide +kernel
theorem dX3_judgeTrial_8 : decode cX3_judgeTrial 8 = .ok (.invokevirtual 138, 3) := by decide +kernel
theorem dX3_judgeTrial_11 : decode cX3_judgeTrial 11 = .ok (.astore_n 1, 1) := by decide +kernel
theorem dX3_judgeTrial_12 : decode cX3_judgeTrial 12 = .ok (.aload_n 0, 1) := by decide +kernel
theorem dX3_judgeTrial_13 : decode cX3_judgeTrial 13 = .ok (.aload_n 0, 1) := by decide +kernel
theorem dX3_judgeTrial_14 : decode cX3_judgeTrial 14 = .ok (.getfield 26, 3) := by decide +kernel
theorem dX3_judgeTrial_17 : decode cX3_judgeTrial 17 = .ok (.getfield 220, 3) := by decide +kernel
theorem dX3_judgeTrial_20 : decode cX3_judgeTrial 20 = .ok (.invokevirtual 138, 3) := by decide +kernel
theorem dX3_judgeTrial_23 : decode cX3_judgeTrial 23 = .ok (.astore_n 2, 1) := by decide +kernel
theorem dX3_judgeTrial_24 : decode cX3_judgeTrial 24 = .ok (.aload_n 1, 1) := by decide +kernel
theorem dX3_judgeTrial_25 : decode cX3_judgeTrial 25 = .ok (.ifnull 24, 3) := by decide +kernel
theorem dX3_judgeTrial_28 : decode cX3_judgeTrial 28 = .ok (.aload_n 2, 1) := by decide +kernel
theorem dX3_judgeTrial_29 : decode cX3_judgeTrial 29 = .ok (.ifnull 20, 3) := by decide +kernel
theorem dX3_judgeTrial_32 : decode cX3_judgeTrial 32 = .ok (.aload_n 0, 1) := by decide +kernel
theorem dX3_judgeTrial_33 : decode cX3_judgeTrial 33 = .ok (.getfield 26, 3) := by decide +kernel
theorem dX3_judgeTrial_36 : decode cX3_judgeTrial 36 = .ok (.getfield 214, 3) := by decide +kernel
theorem dX3_judgeTrial_39 : decode cX3_judgeTrial 39 = .ok (.aload_n 0, 1) := by decide +kernel
theorem dX3_judgeTrial_40 : decode cX3_judgeTrial 40 = .ok (.getfield 26, 3) := by decide +kernel
theorem dX3_judgeTrial_43 : decode cX3_judgeTrial 43 = .ok (.getfield 220, 3) := by decide +kernel
theorem dX3_judgeTrial_46 : decode cX3_judgeTrial 46 = .ok (.if_icmp .ne 5, 3) := by decide +kernel
theorem dX3_judgeTrial_49 : decode cX3_judgeTrial 49 = .ok (.iconst (-1), 1) := by decide +kernel
theorem dX3_judgeTrial_50 : decode cX3_judgeTrial 50 = .ok (.ireturn, 1) := by decide +kernel
theorem dX3_judgeTrial_51 : decode cX3_judgeTrial 51 = .ok (.aload_n 0, 1) := by decide +kernel
theorem dX3_judgeTrial_52 : decode cX3_judgeTrial 52 = .ok (.getfield 26, 3) := by decide +kernel
theorem dX3_judgeTrial_55 : decode cX3_judgeTrial 55 = .ok (.getfield 211, 3) := by decide +kernel
theorem dX3_judgeTrial_58 : decode cX3_judgeTrial 58 = .ok (.ifCond .lt 14, 3) := by decide +kernel
theorem dX3_judgeTrial_61 : decode cX3_judgeTrial 61 = .ok (.aload_n 0, 1) := by decide +kernel
theorem dX3_judgeTrial_62 : decode cX3_judgeTrial 62 = .ok (.getfield 26, 3) := by decide +kernel
theorem dX3_judgeTrial_65 : decode cX3_judgeTrial 65 = .ok (.getfield 211, 3) := by decide +kernel
theorem dX3_judgeTrial_68 : decode cX3_judgeTrial 68 = .ok (.iconst 2, 1) := by decide +kernel
theorem dX3_judgeTrial_69 : decode cX3_judgeTrial 69 = .ok (.if_icmp .le 6, 3) := by decide +kernel
theorem dX3_judgeTrial_72 : decode cX3_judgeTrial 72 = .ok (.bipush (-2), 2) := by decide +kernel
theorem dX3_judgeTrial_74 : decode cX3_judgeTrial 74 = .ok (.ireturn, 1) := by decide +kernel
theorem dX3_judgeTrial_75 : decode cX3_judgeTrial 75 = .ok (.aload_n 0, 1) := by decide +kernel
theorem dX3_judgeTrial_76 : decode cX3_judgeTrial 76 = .ok (.getfield 26, 3) := by decide +kernel
theorem dX3_judgeTrial_79 : decode cX3_judgeTrial 79 = .ok (.getfield 211, 3) := by decide +kernel
theorem dX3_judgeTrial_82 : decode cX3_judgeTrial 82 = .ok (.iconst 1, 1) := by decide +kernel
theorem dX3_judgeTrial_83 : decode cX3_judgeTrial 83 = .ok (.if_icmp .eq 7, 3) := by decide +kernel
theorem dX3_judgeTrial_86 : decode cX3_judgeTrial 86 = .ok (.iconst 1, 1) := by decide +kernel
theorem dX3_judgeTrial_87 : decode cX3_judgeTrial 87 = .ok (.goto 4, 3) := by decide +kernel
theorem dX3_judgeTrial_90 : decode cX3_judgeTrial 90 = .ok (.iconst 0, 1) := by decide +kernel
theorem dX3_judgeTrial_91 : decode cX3_judgeTrial 91 = .ok (.istore_n 3, 1) := by decide +kernel
theorem dX3_judgeTrial_92 : decode cX3_judgeTrial 92 = .ok (.aload_n 0, 1) := by decide +kernel
theorem dX3_judgeTrial_93 : decode cX3_judgeTrial 93 = .ok (.getfield 26, 3) := by decide +kernel
theorem dX3_judgeTrial_96 : decode cX3_judgeTrial 96 = .ok (.getfield 211, 3) := by decide +kernel
theorem dX3_judgeTrial_99 : decode cX3_judgeTrial 99 = .ok (.ifCond .ne 7, 3) := by decide +kernel
theorem dX3_judgeTrial_102 : decode cX3_judgeTrial 102 = .ok (.iconst 1, 1) := by decide +kernel
theorem dX3_judgeTrial_103 : decode cX3_judgeTrial 103 = .ok (.goto 4, 3) := by decide +kernel
theorem dX3_judgeTrial_106 : decode cX3_judgeTrial 106 = .ok (.iconst 0, 1) := by decide +kernel
theorem dX3_judgeTrial_107 : decode cX3_judgeTrial 107 = .ok (.istore 4, 2) := by decide +kernel
theorem dX3_judgeTrial_109 : decode cX3_judgeTrial 109 = .ok (.aload_n 0, 1) := by decide +kernel
theorem dX3_judgeTrial_110 : decode cX3_judgeTrial 110 = .ok (.getfield 26, 3) := by decide +kernel
theorem dX3_judgeTrial_113 : decode cX3_judgeTrial 113 = .ok (.getfield 226, 3) := by decide +kernel
theorem dX3_judgeTrial_116 : decode cX3_judgeTrial 116 = .ok (.getfield 142, 3) := by decide +kernel
theorem dX3_judgeTrial_119 : decode cX3_judgeTrial 119 = .ok (.istore 5, 2) := by decide +kernel
theorem dX3_judgeTrial_121 : decode cX3_judgeTrial 121 = .ok (.aload_n 0, 1) := by decide +kernel
theorem dX3_judgeTrial_122 : decode cX3_judgeTrial 122 = .ok (.getfield 26, 3) := by decide +kernel
theorem dX3_judgeTrial_125 : decode cX3_judgeTrial 125 = .ok (.getfield 230, 3) := by decide +kernel
theorem dX3_judgeTrial_128 : decode cX3_judgeTrial 128 = .ok (.getfield 142, 3) := by decide +kernel
theorem dX3_judgeTrial_131 : decode cX3_judgeTrial 131 = .ok (.istore 6, 2) := by decide +kernel
theorem dX3_judgeTrial_133 : decode cX3_judgeTrial 133 = .ok (.aload_n 0, 1) := by decide +kernel
theorem dX3_judgeTrial_134 : decode cX3_judgeTrial 134 = .ok (.getfield 26, 3) := by decide +kernel
theorem dX3_judgeTrial_137 : decode cX3_judgeTrial 137 = .ok (.invokevirtual 104, 3) := by decide +kernel
theorem dX3_judgeTrial_140 : decode cX3_judgeTrial 140 = .ok (.istore 7, 2) := by decide +kernel
theorem dX3_judgeTrial_142 : decode cX3_judgeTrial 142 = .ok (.aload_n 0, 1) := by decide +kernel
theorem dX3_judgeTrial_143 : decode cX3_judgeTrial 143 = .ok (.getfield 26, 3) := by decide +kernel
theorem dX3_judgeTrial_146 : decode cX3_judgeTrial 146 = .ok (.getfield 217, 3) := by decide +kernel
theorem dX3_judgeTrial_149 : decode cX3_judgeTrial 149 = .ok (.iload 7, 2) := by decide +kernel
theorem dX3_judgeTrial_151 : decode cX3_judgeTrial 151 = .ok (.if_icmp .lt 36, 3) := by decide +kernel
theorem dX3_judgeTrial_154 : decode cX3_judgeTrial 154 = .ok (.aload_n 0, 1) := by decide +kernel
theorem dX3_judgeTrial_155 : decode cX3_judgeTrial 155 = .ok (.getfield 26, 3) := by decide +kernel
theorem dX3_judgeTrial_158 : decode cX3_judgeTrial 158 = .ok (.getfield 223, 3) := by decide +kernel
theorem dX3_judgeTrial_161 : decode cX3_judgeTrial 161 = .ok (.iload 7, 2) := by decide +kernel
theorem dX3_judgeTrial_163 : decode cX3_judgeTrial 163 = .ok (.if_icmp .lt 24, 3) := by decide +kernel
theorem dX3_judgeTrial_166 : decode cX3_judgeTrial 166 = .ok (.iload_n 3, 1) := by decide +kernel
theorem dX3_judgeTrial_167 : decode cX3_judgeTrial 167 = .ok (.ifCond .eq 9, 3) := by decide +kernel
theorem dX3_judgeTrial_170 : decode cX3_judgeTrial 170 = .ok (.iload 5, 2) := by decide +kernel
theorem dX3_judgeTrial_172 : decode cX3_judgeTrial 172 = .ok (.iconst 1, 1) := by decide +kernel
theorem dX3_judgeTrial_173 : decode cX3_judgeTrial 173 = .ok (.if_icmp .lt 14, 3) := by decide +kernel
theorem dX3_judgeTrial_176 : decode cX3_judgeTrial 176 = .ok (.iload 4, 2) := by decide +kernel
theorem dX3_judgeTrial_178 : decode cX3_judgeTrial 178 = .ok (.ifCond .eq 12, 3) := by decide +kernel
theorem dX3_judgeTrial_181 : decode cX3_judgeTrial 181 = .ok (.iload 6, 2) := by decide +kernel
theorem dX3_judgeTrial_183 : decode cX3_judgeTrial 183 = .ok (.iconst 1, 1) := by decide +kernel
theorem dX3_judgeTrial_184 : decode cX3_judgeTrial 184 = .ok (.if_icmp .ge 6, 3) := by decide +kernel
theorem dX3_judgeTrial_187 : decode cX3_judgeTrial 187 = .ok (.bipush (-4), 2) := by decide +kernel
theorem dX3_judgeTrial_189 : decode cX3_judgeTrial 189 = .ok (.ireturn, 1) := by decide +kernel
theorem dX3_judgeTrial_190 : decode cX3_judgeTrial 190 = .ok (.aload_n 0, 1) := by decide +kernel
theorem dX3_judgeTrial_191 : decode cX3_judgeTrial 191 = .ok (.getfield 26, 3) := by decide +kernel
theorem dX3_judgeTrial_194 : decode cX3_judgeTrial 194 = .ok (.getfield 217, 3) := by decide +kernel
theorem dX3_judgeTrial_197 : decode cX3_judgeTrial 197 = .ok (.aload_n 1, 1) := by decide +kernel
theorem dX3_judgeTrial_198 : decode cX3_judgeTrial 198 = .ok (.getfield 142, 3) := by decide +kernel
theorem dX3_judgeTrial_201 : decode cX3_judgeTrial 201 = .ok (.if_icmp .gt 51, 3) := by decide +kernel
theorem dX3_judgeTrial_204 : decode cX3_judgeTrial 204 = .ok (.aload_n 0, 1) := by decide +kernel
theorem dX3_judgeTrial_205 : decode cX3_judgeTrial 205 = .ok (.getfield 26, 3) := by decide +kernel
theorem dX3_judgeTrial_208 : decode cX3_judgeTrial 208 = .ok (.getfield 223, 3) := by decide +kernel
theorem dX3_judgeTrial_211 : decode cX3_judgeTrial 211 = .ok (.aload_n 2, 1) := by decide +kernel
theorem dX3_judgeTrial_212 : decode cX3_judgeTrial 212 = .ok (.getfield 142, 3) := by decide +kernel
theorem dX3_judgeTrial_215 : decode cX3_judgeTrial 215 = .ok (.if_icmp .gt 37, 3) := by decide +kernel
theorem dX3_judgeTrial_218 : decode cX3_judgeTrial 218 = .ok (.iload_n 3, 1) := by decide +kernel
theorem dX3_judgeTrial_219 : decode cX3_judgeTrial 219 = .ok (.ifCond .eq 11, 3) := by decide +kernel
theorem dX3_judgeTrial_222 : decode cX3_judgeTrial 222 = .ok (.iload 5, 2) := by decide +kernel
theorem dX3_judgeTrial_224 : decode cX3_judgeTrial 224 = .ok (.sipush 1000, 3) := by decide +kernel
theorem dX3_judgeTrial_227 : decode cX3_judgeTrial 227 = .ok (.if_icmp .gt 25, 3) := by decide +kernel
theorem dX3_judgeTrial_230 : decode cX3_judgeTrial 230 = .ok (.iload 4, 2) := by decide +kernel
theorem dX3_judgeTrial_232 : decode cX3_judgeTrial 232 = .ok (.ifCond .eq 11, 3) := by decide +kernel
theorem dX3_judgeTrial_235 : decode cX3_judgeTrial 235 = .ok (.iload 6, 2) := by decide +kernel
theorem dX3_judgeTrial_237 : decode cX3_judgeTrial 237 = .ok (.sipush 1000, 3) := by decide +kernel
theorem dX3_judgeTrial_240 : decode cX3_judgeTrial 240 = .ok (.if_icmp .gt 12, 3) := by decide +kernel
theorem dX3_judgeTrial_243 : decode cX3_judgeTrial 243 = .ok (.aload_n 0, 1) := by decide +kernel
theorem dX3_judgeTrial_244 : decode cX3_judgeTrial 244 = .ok (.getfield 175, 3) := by decide +kernel
theorem dX3_judgeTrial_247 : decode cX3_judgeTrial 247 = .ok (.bipush 30, 2) := by decide +kernel
theorem dX3_judgeTrial_249 : decode cX3_judgeTrial 249 = .ok (.if_icmp .lt 6, 3) := by decide +kernel
theorem dX3_judgeTrial_252 : decode cX3_judgeTrial 252 = .ok (.bipush (-6), 2) := by decide +kernel
theorem dX3_judgeTrial_254 : decode cX3_judgeTrial 254 = .ok (.ireturn, 1) := by decide +kernel
theorem dX3_judgeTrial_255 : decode cX3_judgeTrial 255 = .ok (.iconst 0, 1) := by decide +kernel
theorem dX3_judgeTrial_256 : decode cX3_judgeTrial 256 = .ok (.ireturn, 1) := by decide +kernel
theorem dX3_stretchTrial_0 : decode cX3_stretchTrial 0 = .ok (.aload_n 0, 1) := by decide +kernel
theorem dX3_stretchTrial_1 : decode cX3_stretchTrial 1 = .ok (.aload_n 0, 1) := by decide +kernel
theorem dX3_stretchTrial_2 : decode cX3_stretchTrial 2 = .ok (.getfield 26, 3) := by decide +kernel
theorem dX3_stretchTrial_5 : decode cX3_stretchTrial 5 = .ok (.getfield 214, 3) := by decide +kernel
theorem dX3_stretchTrial_8 : decode cX3_stretchTrial 8 = .ok (.aload_n 0, 1) := by decide +kernel
theorem dX3_stretchTrial_9 : decode cX3_stretchTrial 9 = .ok (.getfield 26, 3) := by decide +kernel
theorem dX3_stretchTrial_12 : decode cX3_stretchTrial 12 = .ok (.getfield 217, 3) := by decide +kernel
theorem dX3_stretchTrial_15 : decode cX3_stretchTrial 15 = .ok (.bipush 16, 2) := by decide +kernel
theorem dX3_stretchTrial_17 : decode cX3_stretchTrial 17 = .ok (.aload_n 0, 1) := by decide +kernel
theorem dX3_stretchTrial_18 : decode cX3_stretchTrial 18 = .ok (.getfield 26, 3) := by decide +kernel
theorem dX3_stretchTrial_21 : decode cX3_stretchTrial 21 = .ok (.getfield 250, 3) := by decide +kernel
theorem dX3_stretchTrial_24 : decode cX3_stretchTrial 24 = .ok (.invokevirtual 253, 3) := by decide +kernel
theorem dX3_stretchTrial_27 : decode cX3_stretchTrial 27 = .ok (.aload_n 0, 1) := by decide +kernel
theorem dX3_stretchTrial_28 : decode cX3_stretchTrial 28 = .ok (.aload_n 0, 1) := by decide +kernel
theorem dX3_stretchTrial_29 : decode cX3_stretchTrial 29 = .ok (.getfield 26, 3) := by decide +kernel
theorem dX3_stretchTrial_32 : decode cX3_stretchTrial 32 = .ok (.getfield 220, 3) := by decide +kernel
theorem dX3_stretchTrial_35 : decode cX3_stretchTrial 35 = .ok (.aload_n 0, 1) := by decide +kernel
theorem dX3_stretchTrial_36 : decode cX3_stretchTrial 36 = .ok (.getfield 26, 3) := by decide +kernel
theorem dX3_stretchTrial_39 : decode cX3_stretchTrial 39 = .ok (.getfield 223, 3) := by decide +kernel
theorem dX3_stretchTrial_42 : decode cX3_stretchTrial 42 = .ok (.bipush 16, 2) := by decide +kernel
theorem dX3_stretchTrial_44 : decode cX3_stretchTrial 44 = .ok (.aload_n 0, 1) := by decide +kernel
theorem dX3_stretchTrial_45 : decode cX3_stretchTrial 45 = .ok (.getfield 26, 3) := by decide +kernel
theorem dX3_stretchTrial_48 : decode cX3_stretchTrial 48 = .ok (.getfield 257, 3) := by decide +kernel
theorem dX3_stretchTrial_51 : decode cX3_stretchTrial 51 = .ok (.invokevirtual 253, 3) := by decide +kernel
theorem dX3_stretchTrial_54 : decode cX3_stretchTrial 54 = .ok (.aload_n 0, 1) := by decide +kernel
theorem dX3_stretchTrial_55 : decode cX3_stretchTrial 55 = .ok (.getfield 26, 3) := by decide +kernel
theorem dX3_stretchTrial_58 : decode cX3_stretchTrial 58 = .ok (.getfield 250, 3) := by decide +kernel
theorem dX3_stretchTrial_61 : decode cX3_stretchTrial 61 = .ok (.getfield 195, 3) := by decide +kernel
theorem dX3_stretchTrial_64 : decode cX3_stretchTrial 64 = .ok (.bipush 16, 2) := by decide +kernel
theorem dX3_stretchTrial_66 : decode cX3_stretchTrial 66 = .ok (.baload, 1) := by decide +kernel
theorem dX3_stretchTrial_67 : decode cX3_stretchTrial 67 = .ok (.ifCond .ne 19, 3) := by decide +kernel
theorem dX3_stretchTrial_70 : decode cX3_stretchTrial 70 = .ok (.aload_n 0, 1) := by decide +kernel
theorem dX3_stretchTrial_71 : decode cX3_stretchTrial 71 = .ok (.getfield 26, 3) := by decide +kernel
theorem dX3_stretchTrial_74 : decode cX3_stretchTrial 74 = .ok (.getfield 257, 3) := by decide +kernel
theorem dX3_stretchTrial_77 : decode cX3_stretchTrial 77 = .ok (.getfield 195, 3) := by decide +kernel
theorem dX3_stretchTrial_80 : decode cX3_stretchTrial 80 = .ok (.bipush 16, 2) := by decide +kernel
theorem dX3_stretchTrial_82 : decode cX3_stretchTrial 82 = .ok (.baload, 1) := by decide +kernel
theorem dX3_stretchTrial_83 : decode cX3_stretchTrial 83 = .ok (.ifCond .eq 6, 3) := by decide +kernel
theorem dX3_stretchTrial_86 : decode cX3_stretchTrial 86 = .ok (.bipush (-3), 2) := by decide +kernel
theorem dX3_stretchTrial_88 : decode cX3_stretchTrial 88 = .ok (.ireturn, 1) := by decide +kernel
theorem dX3_stretchTrial_89 : decode cX3_stretchTrial 89 = .ok (.aload_n 0, 1) := by decide +kernel
theorem dX3_stretchTrial_90 : decode cX3_stretchTrial 90 = .ok (.getfield 26, 3) := by decide +kernel
theorem dX3_stretchTrial_93 : decode cX3_stretchTrial 93 = .ok (.getfield 250, 3) := by decide +kernel
theorem dX3_stretchTrial_96 : decode cX3_stretchTrial 96 = .ok (.aload_n 0, 1) := by decide +kernel
theorem dX3_stretchTrial_97 : decode cX3_stretchTrial 97 = .ok (.getfield 26, 3) := by decide +kernel
theorem dX3_stretchTrial_100 : decode cX3_stretchTrial 100 = .ok (.getfield 257, 3) := by decide +kernel
theorem dX3_stretchTrial_103 : decode cX3_stretchTrial 103 = .ok (.bipush 16, 2) := by decide +kernel
theorem dX3_stretchTrial_105 : decode cX3_stretchTrial 105 = .ok (.invokevirtual 260, 3) := by decide +kernel
theorem dX3_stretchTrial_108 : decode cX3_stretchTrial 108 = .ok (.invokestatic 264, 3) := by decide +kernel
theorem dX3_stretchTrial_111 : decode cX3_stretchTrial 111 = .ok (.lstore_n 1, 1) := by decide +kernel
theorem dX3_stretchTrial_112 : decode cX3_stretchTrial 112 = .ok (.lconst 1, 1) := by decide +kernel
theorem dX3_stretchTrial_113 : decode cX3_stretchTrial 113 = .ok (.lload_n 1, 1) := by decide +kernel
theorem dX3_stretchTrial_114 : decode cX3_stretchTrial 114 = .ok (.aload_n 0, 1) := by decide +kernel
theorem dX3_stretchTrial_115 : decode cX3_stretchTrial 115 = .ok (.getfield 26, 3) := by decide +kernel
theorem dX3_stretchTrial_118 : decode cX3_stretchTrial 118 = .ok (.getfield 226, 3) := by decide +kernel
theorem dX3_stretchTrial_121 : decode cX3_stretchTrial 121 = .ok (.getfield 142, 3) := by decide +kernel
theorem dX3_stretchTrial_124 : decode cX3_stretchTrial 124 = .ok (.i2l, 1) := by decide +kernel
theorem dX3_stretchTrial_125 : decode cX3_stretchTrial 125 = .ok (.lsub, 1) := by decide +kernel
theorem dX3_stretchTrial_126 : decode cX3_stretchTrial 126 = .ok (.invokestatic 268, 3) := by decide +kernel
theorem dX3_stretchTrial_129 : decode cX3_stretchTrial 129 = .ok (.lstore_n 3, 1) := by decide +kernel
theorem dX3_stretchTrial_130 : decode cX3_stretchTrial 130 = .ok (.lload_n 3, 1) := by decide +kernel
theorem dX3_stretchTrial_131 : decode cX3_stretchTrial 131 = .ok (.ldc2_w 270, 3) := by decide +kernel
theorem dX3_stretchTrial_134 : decode cX3_stretchTrial 134 = .ok (.lcmp, 1) := by decide +kernel
theorem dX3_stretchTrial_135 : decode cX3_stretchTrial 135 = .ok (.ifCond .le 6, 3) := by decide +kernel
theorem dX3_stretchTrial_138 : decode cX3_stretchTrial 138 = .ok (.bipush (-6), 2) := by decide +kernel
theorem dX3_stretchTrial_140 : decode cX3_stretchTrial 140 = .ok (.ireturn, 1) := by decide +kernel
theorem dX3_stretchTrial_141 : decode cX3_stretchTrial 141 = .ok (.aload_n 0, 1) := by decide +kernel
theorem dX3_stretchTrial_142 : decode cX3_stretchTrial 142 = .ok (.getfield 26, 3) := by decide +kernel
theorem dX3_stretchTrial_145 : decode cX3_stretchTrial 145 = .ok (.getfield 230, 3) := by decide +kernel
theorem dX3_stretchTrial_148 : decode cX3_stretchTrial 148 = .ok (.lload_n 3, 1) := by decide +kernel
theorem dX3_stretchTrial_149 : decode cX3_stretchTrial 149 = .ok (.l2i, 1) := by decide +kernel
theorem dX3_stretchTrial_150 : decode cX3_stretchTrial 150 = .ok (.putfield 142, 3) := by decide +kernel
theorem dX3_stretchTrial_153 : decode cX3_stretchTrial 153 = .ok (.iconst 0, 1) := by decide +kernel
theorem dX3_stretchTrial_154 : decode cX3_stretchTrial 154 = .ok (.ireturn, 1) := by decide +kernel
theorem dX3_addTrial_0 : decode cX3_addTrial 0 = .ok (.aload_n 0, 1) := by decide +kernel
theorem dX3_addTrial_1 : decode cX3_addTrial 1 = .ok (.getfield 175, 3) := by decide +kernel
theorem dX3_addTrial_4 : decode cX3_addTrial 4 = .ok (.istore_n 1, 1) := by decide +kernel
theorem dX3_addTrial_5 : decode cX3_addTrial 5 = .ok (.iload_n 1, 1) := by decide +kernel
theorem dX3_addTrial_6 : decode cX3_addTrial 6 = .ok (.ifCond .lt 9, 3) := by decide +kernel
theorem dX3_addTrial_9 : decode cX3_addTrial 9 = .ok (.iload_n 1, 1) := by decide +kernel
theorem dX3_addTrial_10 : decode cX3_addTrial 10 = .ok (.bipush 30, 2) := by decide +kernel
theorem dX3_addTrial_12 : decode cX3_addTrial 12 = .ok (.if_icmp .lt 10, 3) := by decide +kernel
theorem dX3_addTrial_15 : decode cX3_addTrial 15 = .ok (.aload_n 0, 1) := by decide +kernel
theorem dX3_addTrial_16 : decode cX3_addTrial 16 = .ok (.bipush (-6), 2) := by decide +kernel
theorem dX3_addTrial_18 : decode cX3_addTrial 18 = .ok (.invokevirtual 62, 3) := by decide +kernel
theorem dX3_addTrial_21 : decode cX3_addTrial 21 = .ok (.ireturn, 1) := by decide +kernel
theorem dX3_addTrial_22 : decode cX3_addTrial 22 = .ok (.new 9, 3) := by decide +kernel
theorem dX3_addTrial_25 : decode cX3_addTrial 25 = .ok (.dup, 1) := by decide +kernel
theorem dX3_addTrial_26 : decode cX3_addTrial 26 = .ok (.invokespecial 25, 3) := by decide +kernel
theorem dX3_addTrial_29 : decode cX3_addTrial 29 = .ok (.astore_n 2, 1) := by decide +kernel
theorem dX3_addTrial_30 : decode cX3_addTrial 30 = .ok (.aload_n 2, 1) := by decide +kernel
theorem dX3_addTrial_31 : decode cX3_addTrial 31 = .ok (.aload_n 0, 1) := by decide +kernel
theorem dX3_addTrial_32 : decode cX3_addTrial 32 = .ok (.getfield 26, 3) := by decide +kernel
theorem dX3_addTrial_35 : decode cX3_addTrial 35 = .ok (.invokevirtual 183, 3) := by decide +kernel
theorem dX3_addTrial_38 : decode cX3_addTrial 38 = .ok (.aload_n 2, 1) := by decide +kernel
theorem dX3_addTrial_39 : decode cX3_addTrial 39 = .ok (.iconst 1, 1) := by decide +kernel
theorem dX3_addTrial_40 : decode cX3_addTrial 40 = .ok (.putfield 97, 3) := by decide +kernel
theorem dX3_addTrial_43 : decode cX3_addTrial 43 = .ok (.aload_n 0, 1) := by decide +kernel
theorem dX3_addTrial_44 : decode cX3_addTrial 44 = .ok (.getfield 11, 3) := by decide +kernel
theorem dX3_addTrial_47 : decode cX3_addTrial 47 = .ok (.iload_n 1, 1) := by decide +kernel
theorem dX3_addTrial_48 : decode cX3_addTrial 48 = .ok (.aload_n 2, 1) := by decide +kernel
theorem dX3_addTrial_49 : decode cX3_addTrial 49 = .ok (.aastore, 1) := by decide +kernel
theorem dX3_addTrial_50 : decode cX3_addTrial 50 = .ok (.aload_n 0, 1) := by decide +kernel
theorem dX3_addTrial_51 : decode cX3_addTrial 51 = .ok (.dup, 1) := by decide +kernel
theorem dX3_addTrial_52 : decode cX3_addTrial 52 = .ok (.getfield 175, 3) := by decide +kernel
theorem dX3_addTrial_55 : decode cX3_addTrial 55 = .ok (.iconst 1, 1) := by decide +kernel
theorem dX3_addTrial_56 : decode cX3_addTrial 56 = .ok (.iadd, 1) := by decide +kernel
theorem dX3_addTrial_57 : decode cX3_addTrial 57 = .ok (.putfield 175, 3) := by decide +kernel
theorem dX3_addTrial_60 : decode cX3_addTrial 60 = .ok (.aload_n 0, 1) := by decide +kernel
theorem dX3_addTrial_61 : decode cX3_addTrial 61 = .ok (.iload_n 1, 1) := by decide +kernel
theorem dX3_addTrial_62 : decode cX3_addTrial 62 = .ok (.aload_n 2, 1) := by decide +kernel
theorem dX3_addTrial_63 : decode cX3_addTrial 63 = .ok (.getfield 226, 3) := by decide +kernel
theorem dX3_addTrial_66 : decode cX3_addTrial 66 = .ok (.aload_n 2, 1) := by decide +kernel
theorem dX3_addTrial_67 : decode cX3_addTrial 67 = .ok (.getfield 230, 3) := by decide +kernel
theorem dX3_addTrial_70 : decode cX3_addTrial 70 = .ok (.invokevirtual 100, 3) := by decide +kernel
theorem dX3_addTrial_73 : decode cX3_addTrial 73 = .ok (.aload_n 0, 1) := by decide +kernel
theorem dX3_addTrial_74 : decode cX3_addTrial 74 = .ok (.iload_n 1, 1) := by decide +kernel
theorem dX3_addTrial_75 : decode cX3_addTrial 75 = .ok (.invokevirtual 121, 3) := by decide +kernel
theorem dX3_addTrial_78 : decode cX3_addTrial 78 = .ok (.iload_n 1, 1) := by decide +kernel
theorem dX3_addTrial_79 : decode cX3_addTrial 79 = .ok (.ireturn, 1) := by decide +kernel
theorem dX3_putPlanes_0 : decode cX3_putPlanes 0 = .ok (.iconst 2, 1) := by decide +kernel
theorem dX3_putPlanes_1 : decode cX3_putPlanes 1 = .ok (.iconst 2, 1) := by decide +kernel
theorem dX3_putPlanes_2 : decode cX3_putPlanes 2 = .ok (.iload_n 1, 1) := by decide +kernel
theorem dX3_putPlanes_3 : decode cX3_putPlanes 3 = .ok (.imul, 1) := by decide +kernel
theorem dX3_putPlanes_4 : decode cX3_putPlanes 4 = .ok (.iadd, 1) := by decide +kernel
theorem dX3_putPlanes_5 : decode cX3_putPlanes 5 = .ok (.istore 4, 2) := by decide +kernel
theorem dX3_putPlanes_7 : decode cX3_putPlanes 7 = .ok (.iload 4, 2) := by decide +kernel
theorem dX3_putPlanes_9 : decode cX3_putPlanes 9 = .ok (.iconst 2, 1) := by decide +kernel
theorem dX3_putPlanes_10 : decode cX3_putPlanes 10 = .ok (.if_icmp .lt 30, 3) := by decide +kernel
theorem dX3_putPlanes_13 : decode cX3_putPlanes 13 = .ok (.iload 4, 2) := by decide +kernel
theorem dX3_putPlanes_15 : decode cX3_putPlanes 15 = .ok (.iconst 1, 1) := by decide +kernel
theorem dX3_putPlanes_16 : decode cX3_putPlanes 16 = .ok (.iadd, 1) := by decide +kernel
theorem dX3_putPlanes_17 : decode cX3_putPlanes 17 = .ok (.bipush 62, 2) := by decide +kernel
theorem dX3_putPlanes_19 : decode cX3_putPlanes 19 = .ok (.if_icmp .ge 21, 3) := by decide +kernel
theorem dX3_putPlanes_22 : decode cX3_putPlanes 22 = .ok (.aload_n 0, 1) := by decide +kernel
theorem dX3_putPlanes_23 : decode cX3_putPlanes 23 = .ok (.getfield 17, 3) := by decide +kernel
theorem dX3_putPlanes_26 : decode cX3_putPlanes 26 = .ok (.iload 4, 2) := by decide +kernel
theorem dX3_putPlanes_28 : decode cX3_putPlanes 28 = .ok (.aload_n 2, 1) := by decide +kernel
theorem dX3_putPlanes_29 : decode cX3_putPlanes 29 = .ok (.aastore, 1) := by decide +kernel
theorem dX3_putPlanes_30 : decode cX3_putPlanes 30 = .ok (.aload_n 0, 1) := by decide +kernel
theorem dX3_putPlanes_31 : decode cX3_putPlanes 31 = .ok (.getfield 17, 3) := by decide +kernel
theorem dX3_putPlanes_34 : decode cX3_putPlanes 34 = .ok (.iload 4, 2) := by decide +kernel
theorem dX3_putPlanes_36 : decode cX3_putPlanes 36 = .ok (.iconst 1, 1) := by decide +kernel
theorem dX3_putPlanes_37 : decode cX3_putPlanes 37 = .ok (.iadd, 1) := by decide +kernel
theorem dX3_putPlanes_38 : decode cX3_putPlanes 38 = .ok (.aload_n 3, 1) := by decide +kernel
theorem dX3_putPlanes_39 : decode cX3_putPlanes 39 = .ok (.aastore, 1) := by decide +kernel
theorem dX3_putPlanes_40 : decode cX3_putPlanes 40 = .ok (.return_, 1) := by decide +kernel
theorem dX3_settleFrom_0 : decode cX3_settleFrom 0 = .ok (.iload_n 1, 1) := by decide +kernel
theorem dX3_settleFrom_1 : decode cX3_settleFrom 1 = .ok (.istore_n 2, 1) := by decide +kernel
theorem dX3_settleFrom_2 : decode cX3_settleFrom 2 = .ok (.iload_n 2, 1) := by decide +kernel
theorem dX3_settleFrom_3 : decode cX3_settleFrom 3 = .ok (.aload_n 0, 1) := by decide +kernel
theorem dX3_settleFrom_4 : decode cX3_settleFrom 4 = .ok (.getfield 175, 3) := by decide +kernel
theorem dX3_settleFrom_7 : decode cX3_settleFrom 7 = .ok (.if_icmp .ge 42, 3) := by decide +kernel
theorem dX3_settleFrom_10 : decode cX3_settleFrom 10 = .ok (.aload_n 0, 1) := by decide +kernel
theorem dX3_settleFrom_11 : decode cX3_settleFrom 11 = .ok (.iload_n 2, 1) := by decide +kernel
theorem dX3_settleFrom_12 : decode cX3_settleFrom 12 = .ok (.invokevirtual 90, 3) := by decide +kernel
theorem dX3_settleFrom_15 : decode cX3_settleFrom 15 = .ok (.astore_n 3, 1) := by decide +kernel
theorem dX3_settleFrom_16 : decode cX3_settleFrom 16 = .ok (.aload_n 3, 1) := by decide +kernel
theorem dX3_settleFrom_17 : decode cX3_settleFrom 17 = .ok (.ifnull 26, 3) := by decide +kernel
theorem dX3_settleFrom_20 : decode cX3_settleFrom 20 = .ok (.iconst 0, 1) := by decide +kernel
theorem dX3_settleFrom_21 : decode cX3_settleFrom 21 = .ok (.istore 4, 2) := by decide +kernel
theorem dX3_settleFrom_23 : decode cX3_settleFrom 23 = .ok (.iload 4, 2) := by decide +kernel
theorem dX3_settleFrom_25 : decode cX3_settleFrom 25 = .ok (.bipush 17, 2) := by decide +kernel
theorem dX3_settleFrom_27 : decode cX3_settleFrom 27 = .ok (.if_icmp .ge 16, 3) := by decide +kernel
theorem dX3_settleFrom_30 : decode cX3_settleFrom 30 = .ok (.aload_n 0, 1) := by decide +kernel
theorem dX3_settleFrom_31 : decode cX3_settleFrom 31 = .ok (.aload_n 3, 1) := by decide +kernel
theorem dX3_settleFrom_32 : decode cX3_settleFrom 32 = .ok (.iload 4, 2) := by decide +kernel
theorem dX3_settleFrom_34 : decode cX3_settleFrom 34 = .ok (.invokevirtual 187, 3) := by decide +kernel
theorem dX3_settleFrom_37 : decode cX3_settleFrom 37 = .ok (.iinc 4 1, 3) := by decide +kernel
theorem dX3_settleFrom_40 : decode cX3_settleFrom 40 = .ok (.goto (-17), 3) := by decide +kernel
theorem dX3_settleFrom_43 : decode cX3_settleFrom 43 = .ok (.iinc 2 1, 3) := by decide +kernel
theorem dX3_settleFrom_46 : decode cX3_settleFrom 46 = .ok (.goto (-44), 3) := by decide +kernel
theorem dX3_settleFrom_49 : decode cX3_settleFrom 49 = .ok (.return_, 1) := by decide +kernel
theorem dX3_settle_0 : decode cX3_settle 0 = .ok (.aload_n 0, 1) := by decide +kernel
theorem dX3_settle_1 : decode cX3_settle 1 = .ok (.aload_n 1, 1) := by decide +kernel
theorem dX3_settle_2 : decode cX3_settle 2 = .ok (.getfield 214, 3) := by decide +kernel
theorem dX3_settle_5 : decode cX3_settle 5 = .ok (.aload_n 1, 1) := by decide +kernel
theorem dX3_settle_6 : decode cX3_settle 6 = .ok (.getfield 217, 3) := by decide +kernel
theorem dX3_settle_9 : decode cX3_settle 9 = .ok (.iload_n 2, 1) := by decide +kernel
theorem dX3_settle_10 : decode cX3_settle 10 = .ok (.aload_n 1, 1) := by decide +kernel
theorem dX3_settle_11 : decode cX3_settle 11 = .ok (.getfield 250, 3) := by decide +kernel
theorem dX3_settle_14 : decode cX3_settle 14 = .ok (.invokevirtual 253, 3) := by decide +kernel
theorem dX3_settle_17 : decode cX3_settle 17 = .ok (.aload_n 0, 1) := by decide +kernel
theorem dX3_settle_18 : decode cX3_settle 18 = .ok (.aload_n 1, 1) := by decide +kernel
theorem dX3_settle_19 : decode cX3_settle 19 = .ok (.getfield 220, 3) := by decide +kernel
theorem dX3_settle_22 : decode cX3_settle 22 = .ok (.aload_n 1, 1) := by decide +kernel
theorem dX3_settle_23 : decode cX3_settle 23 = .ok (.getfield 223, 3) := by decide +kernel
theorem dX3_settle_26 : decode cX3_settle 26 = .ok (.iload_n 2, 1) := by decide +kernel
theorem dX3_settle_27 : decode cX3_settle 27 = .ok (.aload_n 1, 1) := by decide +kernel
theorem dX3_settle_28 : decode cX3_settle 28 = .ok (.getfield 257, 3) := by decide +kernel
theorem dX3_settle_31 : decode cX3_settle 31 = .ok (.invokevirtual 253, 3) := by decide +kernel
theorem dX3_settle_34 : decode cX3_settle 34 = .ok (.aload_n 1, 1) := by decide +kernel
theorem dX3_settle_35 : decode cX3_settle 35 = .ok (.iload_n 2, 1) := by decide +kernel
theorem dX3_settle_36 : decode cX3_settle 36 = .ok (.invokevirtual 272, 3) := by decide +kernel
theorem dX3_settle_39 : decode cX3_settle 39 = .ok (.return_, 1) := by decide +kernel
theorem dX3_markOn_0 : decode cX3_markOn 0 = .ok (.aload_n 0, 1) := by decide +kernel
theorem dX3_markOn_1 : decode cX3_markOn 1 = .ok (.iload_n 1, 1) := by decide +kernel
theorem dX3_markOn_2 : decode cX3_markOn 2 = .ok (.invokevirtual 138, 3) := by decide +kernel
theorem dX3_markOn_5 : decode cX3_markOn 5 = .ok (.astore 5, 2) := by decide +kernel
theorem dX3_markOn_7 : decode cX3_markOn 7 = .ok (.aload 5, 2) := by decide +kernel
theorem dX3_markOn_9 : decode cX3_markOn 9 = .ok (.ifnonnull 12, 3) := by decide +kernel
theorem dX3_markOn_12 : decode cX3_markOn 12 = .ok (.aload 4, 2) := by decide +kernel
theorem dX3_markOn_14 : decode cX3_markOn 14 = .ok (.iload_n 3, 1) := by decide +kernel
theorem dX3_markOn_15 : decode cX3_markOn 15 = .ok (.invokevirtual 275, 3) := by decide +kernel
theorem dX3_markOn_18 : decode cX3_markOn 18 = .ok (.goto 12, 3) := by decide +kernel
theorem dX3_markOn_21 : decode cX3_markOn 21 = .ok (.aload 5, 2) := by decide +kernel
theorem dX3_markOn_23 : decode cX3_markOn 23 = .ok (.iload_n 2, 1) := by decide +kernel
theorem dX3_markOn_24 : decode cX3_markOn 24 = .ok (.iload_n 3, 1) := by decide +kernel
theorem dX3_markOn_25 : decode cX3_markOn 25 = .ok (.aload 4, 2) := by decide +kernel
theorem dX3_markOn_27 : decode cX3_markOn 27 = .ok (.invokevirtual 145, 3) := by decide +kernel
theorem dX3_markOn_30 : decode cX3_markOn 30 = .ok (.return_, 1) := by decide +kernel
theorem dX3_creasesOutside_0 : decode cX3_creasesOutside 0 = .ok (.iload_n 1, 1) := by decide +kernel
theorem dX3_creasesOutside_1 : decode cX3_creasesOutside 1 = .ok (.ifCond .eq 11, 3) := by decide +kernel
theorem dX3_creasesOutside_4 : decode cX3_creasesOutside 4 = .ok (.iload_n 1, 1) := by decide +kernel
theorem dX3_creasesOutside_5 : decode cX3_creasesOutside 5 = .ok (.bipush 16, 2) := by decide +kernel
theorem dX3_creasesOutside_7 : decode cX3_creasesOutside 7 = .ok (.if_icmp .eq 5, 3) := by decide +kernel
theorem dX3_creasesOutside_10 : decode cX3_creasesOutside 10 = .ok (.iconst 0, 1) := by decide +kernel
theorem dX3_creasesOutside_11 : decode cX3_creasesOutside 11 = .ok (.ireturn, 1) := by decide +kernel
theorem dX3_creasesOutside_12 : decode cX3_creasesOutside 12 = .ok (.iload_n 1, 1) := by decide +kernel
theorem dX3_creasesOutside_13 : decode cX3_creasesOutside 13 = .ok (.ifCond .ne 7, 3) := by decide +kernel
theorem dX3_creasesOutside_16 : decode cX3_creasesOutside 16 = .ok (.iconst 0, 1) := by decide +kernel
theorem dX3_creasesOutside_17 : decode cX3_creasesOutside 17 = .ok (.goto 8, 3) := by decide +kernel
theorem dX3_creasesOutside_20 : decode cX3_creasesOutside 20 = .ok (.aload_n 0, 1) := by decide +kernel
theorem dX3_creasesOutside_21 : decode cX3_creasesOutside 21 = .ok (.getfield 66, 3) := by decide +kernel
theorem dX3_creasesOutside_24 : decode cX3_creasesOutside 24 = .ok (.ineg, 1) := by decide +kernel
theorem dX3_creasesOutside_25 : decode cX3_creasesOutside 25 = .ok (.istore_n 2, 1) := by decide +kernel
theorem dX3_creasesOutside_26 : decode cX3_creasesOutside 26 = .ok (.iconst 0, 1) := by decide +kernel
theorem dX3_creasesOutside_27 : decode cX3_creasesOutside 27 = .ok (.istore_n 3, 1) := by decide +kernel
theorem dX3_creasesOutside_28 : decode cX3_creasesOutside 28 = .ok (.iconst 0, 1) := by decide +kernel
theorem dX3_creasesOutside_29 : decode cX3_creasesOutside 29 = .ok (.istore 4, 2) := by decide +kernel
theorem dX3_creasesOutside_31 : decode cX3_creasesOutside 31 = .ok (.iload 4, 2) := by decide +kernel
theorem dX3_creasesOutside_33 : decode cX3_creasesOutside 33 = .ok (.aload_n 0, 1) := by decide +kernel
theorem dX3_creasesOutside_34 : decode cX3_creasesOutside 34 = .ok (.getfield 175, 3) := by decide +kernel
theorem dX3_creasesOutside_37 : decode cX3_creasesOutside 37 = .ok (.if_icmp .ge 85, 3) := by decide +kernel
theorem dX3_creasesOutside_40 : decode cX3_creasesOutside 40 = .ok (.aload_n 0, 1) := by decide +kernel
theorem dX3_creasesOutside_41 : decode cX3_creasesOutside 41 = .ok (.iload 4, 2) := by decide +kernel
theorem dX3_creasesOutside_43 : decode cX3_creasesOutside 43 = .ok (.invokevirtual 90, 3) := by decide +kernel
theorem dX3_creasesOutside_46 : decode cX3_creasesOutside 46 = .ok (.astore 5, 2) := by decide +kernel
theorem dX3_creasesOutside_48 : decode cX3_creasesOutside 48 = .ok (.aload 5, 2) := by decide +kernel
theorem dX3_creasesOutside_50 : decode cX3_creasesOutside 50 = .ok (.ifnull 66, 3) := by decide +kernel
theorem dX3_creasesOutside_53 : decode cX3_creasesOutside 53 = .ok (.aload 5, 2) := by decide +kernel
theorem dX3_creasesOutside_55 : decode cX3_creasesOutside 55 = .ok (.getfield 131, 3) := by decide +kernel
theorem dX3_creasesOutside_58 : decode cX3_creasesOutside 58 = .ok (.getfield 195, 3) := by decide +kernel
theorem dX3_creasesOutside_61 : decode cX3_creasesOutside 61 = .ok (.iload_n 1, 1) := by decide +kernel
theorem dX3_creasesOutside_62 : decode cX3_creasesOutside 62 = .ok (.baload, 1) := by decide +kernel
theorem dX3_creasesOutside_63 : decode cX3_creasesOutside 63 = .ok (.ifCond .ne 53, 3) := by decide +kernel
theorem dX3_creasesOutside_66 : decode cX3_creasesOutside 66 = .ok (.aload 5, 2) := by decide +kernel
theorem dX3_creasesOutside_68 : decode cX3_creasesOutside 68 = .ok (.getfield 131, 3) := by decide +kernel
theorem dX3_creasesOutside_71 : decode cX3_creasesOutside 71 = .ok (.getfield 199, 3) := by decide +kernel
theorem dX3_creasesOutside_74 : decode cX3_creasesOutside 74 = .ok (.iload_n 1, 1) := by decide +kernel
theorem dX3_creasesOutside_75 : decode cX3_creasesOutside 75 = .ok (.iaload, 1) := by decide +kernel
theorem dX3_creasesOutside_76 : decode cX3_creasesOutside 76 = .ok (.istore 6, 2) := by decide +kernel
theorem dX3_creasesOutside_78 : decode cX3_creasesOutside 78 = .ok (.iload 6, 2) := by decide +kernel
theorem dX3_creasesOutside_80 : decode cX3_creasesOutside 80 = .ok (.iload_n 2, 1) := by decide +kernel
theorem dX3_creasesOutside_81 : decode cX3_creasesOutside 81 = .ok (.if_icmp .lt 32, 3) := by decide +kernel
theorem dX3_creasesOutside_84 : decode cX3_creasesOutside 84 = .ok (.iload 6, 2) := by decide +kernel
theorem dX3_creasesOutside_86 : decode cX3_creasesOutside 86 = .ok (.aload_n 0, 1) := by decide +kernel
theorem dX3_creasesOutside_87 : decode cX3_creasesOutside 87 = .ok (.getfield 66, 3) := by decide +kernel
theorem dX3_creasesOutside_90 : decode cX3_creasesOutside 90 = .ok (.if_icmp .gt 23, 3) := by decide +kernel
theorem dX3_creasesOutside_93 : decode cX3_creasesOutside 93 = .ok (.aload 5, 2) := by decide +kernel
theorem dX3_creasesOutside_95 : decode cX3_creasesOutside 95 = .ok (.getfield 131, 3) := by decide +kernel
theorem dX3_creasesOutside_98 : decode cX3_creasesOutside 98 = .ok (.getfield 202, 3) := by decide +kernel
theorem dX3_creasesOutside_101 : decode cX3_creasesOutside 101 = .ok (.iload_n 1, 1) := by decide +kernel
theorem dX3_creasesOutside_102 : decode cX3_creasesOutside 102 = .ok (.iaload, 1) := by decide +kernel
theorem dX3_creasesOutside_103 : decode cX3_creasesOutside 103 = .ok (.invokestatic 205, 3) := by decide +kernel
theorem dX3_creasesOutside_106 : decode cX3_creasesOutside 106 = .ok (.aload_n 0, 1) := by decide +kernel
theorem dX3_creasesOutside_107 : decode cX3_creasesOutside 107 = .ok (.getfield 50, 3) := by decide +kernel
theorem dX3_creasesOutside_110 : decode cX3_creasesOutside 110 = .ok (.if_icmp .le 6, 3) := by decide +kernel
theorem dX3_creasesOutside_113 : decode cX3_creasesOutside 113 = .ok (.iinc 3 1, 3) := by decide +kernel
theorem dX3_creasesOutside_116 : decode cX3_creasesOutside 116 = .ok (.iinc 4 1, 3) := by decide +kernel
theorem dX3_creasesOutside_119 : decode cX3_creasesOutside 119 = .ok (.goto (-88), 3) := by decide +kernel
theorem dX3_creasesOutside_122 : decode cX3_creasesOutside 122 = .ok (.iload_n 3, 1) := by decide +kernel
theorem dX3_creasesOutside_123 : decode cX3_creasesOutside 123 = .ok (.ireturn, 1) := by decide +kernel
theorem dX3_tallest_0 : decode cX3_tallest 0 = .ok (.iconst 0, 1) := by decide +kernel
theorem dX3_tallest_1 : decode cX3_tallest 1 = .ok (.istore_n 2, 1) := by decide +kernel
theorem dX3_tallest_2 : decode cX3_tallest 2 = .ok (.iconst 0, 1) := by decide +kernel
theorem dX3_tallest_3 : decode cX3_tallest 3 = .ok (.istore_n 3, 1) := by decide +kernel
theorem dX3_tallest_4 : decode cX3_tallest 4 = .ok (.iconst 0, 1) := by decide +kernel
theorem dX3_tallest_5 : decode cX3_tallest 5 = .ok (.istore 4, 2) := by decide +kernel
theorem dX3_tallest_7 : decode cX3_tallest 7 = .ok (.iload 4, 2) := by decide +kernel
theorem dX3_tallest_9 : decode cX3_tallest 9 = .ok (.aload_n 0, 1) := by decide +kernel
theorem dX3_tallest_10 : decode cX3_tallest 10 = .ok (.getfield 175, 3) := by decide +kernel
theorem dX3_tallest_13 : decode cX3_tallest 13 = .ok (.if_icmp .ge 69, 3) := by decide +kernel
theorem dX3_tallest_16 : decode cX3_tallest 16 = .ok (.aload_n 0, 1) := by decide +kernel
theorem dX3_tallest_17 : decode cX3_tallest 17 = .ok (.iload 4, 2) := by decide +kernel
theorem dX3_tallest_19 : decode cX3_tallest 19 = .ok (.invokevirtual 90, 3) := by decide +kernel
theorem dX3_tallest_22 : decode cX3_tallest 22 = .ok (.astore 5, 2) := by decide +kernel
theorem dX3_tallest_24 : decode cX3_tallest 24 = .ok (.aload 5, 2) := by decide +kernel
theorem dX3_tallest_26 : decode cX3_tallest 26 = .ok (.ifnull 50, 3) := by decide +kernel
theorem dX3_tallest_29 : decode cX3_tallest 29 = .ok (.aload 5, 2) := by decide +kernel
theorem dX3_tallest_31 : decode cX3_tallest 31 = .ok (.getfield 131, 3) := by decide +kernel
theorem dX3_tallest_34 : decode cX3_tallest 34 = .ok (.getfield 195, 3) := by decide +kernel
theorem dX3_tallest_37 : decode cX3_tallest 37 = .ok (.iload_n 1, 1) := by decide +kernel
theorem dX3_tallest_38 : decode cX3_tallest 38 = .ok (.baload, 1) := by decide +kernel
theorem dX3_tallest_39 : decode cX3_tallest 39 = .ok (.ifCond .ne 37, 3) := by decide +kernel
theorem dX3_tallest_42 : decode cX3_tallest 42 = .ok (.iload_n 3, 1) := by decide +kernel
theorem dX3_tallest_43 : decode cX3_tallest 43 = .ok (.ifCond .eq 20, 3) := by decide +kernel
theorem dX3_tallest_46 : decode cX3_tallest 46 = .ok (.iload_n 2, 1) := by decide +kernel
theorem dX3_tallest_47 : decode cX3_tallest 47 = .ok (.aload 5, 2) := by decide +kernel
theorem dX3_tallest_49 : decode cX3_tallest 49 = .ok (.getfield 131, 3) := by decide +kernel
theorem dX3_tallest_52 : decode cX3_tallest 52 = .ok (.getfield 202, 3) := by decide +kernel
theorem dX3_tallest_55 : decode cX3_tallest 55 = .ok (.iload_n 1, 1) := by decide +kernel
theorem dX3_tallest_56 : decode cX3_tallest 56 = .ok (.iaload, 1) := by decide +kernel
theorem dX3_tallest_57 : decode cX3_tallest 57 = .ok (.invokestatic 178, 3) := by decide +kernel
theorem dX3_tallest_60 : decode cX3_tallest 60 = .ok (.goto 13, 3) := by decide +kernel
theorem dX3_tallest_63 : decode cX3_tallest 63 = .ok (.aload 5, 2) := by decide +kernel
theorem dX3_tallest_65 : decode cX3_tallest 65 = .ok (.getfield 131, 3) := by decide +kernel
theorem dX3_tallest_68 : decode cX3_tallest 68 = .ok (.getfield 202, 3) := by decide +kernel
theorem dX3_tallest_71 : decode cX3_tallest 71 = .ok (.iload_n 1, 1) := by decide +kernel
theorem dX3_tallest_72 : decode cX3_tallest 72 = .ok (.iaload, 1) := by decide +kernel
theorem dX3_tallest_73 : decode cX3_tallest 73 = .ok (.istore_n 2, 1) := by decide +kernel
theorem dX3_tallest_74 : decode cX3_tallest 74 = .ok (.iconst 1, 1) := by decide +kernel
theorem dX3_tallest_75 : decode cX3_tallest 75 = .ok (.istore_n 3, 1) := by decide +kernel
theorem dX3_tallest_76 : decode cX3_tallest 76 = .ok (.iinc 4 1, 3) := by decide +kernel
theorem dX3_tallest_79 : decode cX3_tallest 79 = .ok (.goto (-72), 3) := by decide +kernel
theorem dX3_tallest_82 : decode cX3_tallest 82 = .ok (.iload_n 2, 1) := by decide +kernel
theorem dX3_tallest_83 : decode cX3_tallest 83 = .ok (.ireturn, 1) := by decide +kernel
theorem dX3_firstRunInto_0 : decode cX3_firstRunInto 0 = .ok (.aload_n 0, 1) := by decide +kernel
theorem dX3_firstRunInto_1 : decode cX3_firstRunInto 1 = .ok (.iload_n 1, 1) := by decide +kernel
theorem dX3_firstRunInto_2 : decode cX3_firstRunInto 2 = .ok (.invokevirtual 138, 3) := by decide +kernel
theorem dX3_firstRunInto_5 : decode cX3_firstRunInto 5 = .ok (.astore_n 3, 1) := by decide +kernel
theorem dX3_firstRunInto_6 : decode cX3_firstRunInto 6 = .ok (.aload_n 3, 1) := by decide +kernel
theorem dX3_firstRunInto_7 : decode cX3_firstRunInto 7 = .ok (.ifnonnull 6, 3) := by decide +kernel
theorem dX3_firstRunInto_10 : decode cX3_firstRunInto 10 = .ok (.bipush (-9), 2) := by decide +kernel
theorem dX3_firstRunInto_12 : decode cX3_firstRunInto 12 = .ok (.ireturn, 1) := by decide +kernel
theorem dX3_firstRunInto_13 : decode cX3_firstRunInto 13 = .ok (.aload_n 0, 1) := by decide +kernel
theorem dX3_firstRunInto_14 : decode cX3_firstRunInto 14 = .ok (.invokevirtual 162, 3) := by decide +kernel
theorem dX3_firstRunInto_17 : decode cX3_firstRunInto 17 = .ok (.istore 4, 2) := by decide +kernel
theorem dX3_firstRunInto_19 : decode cX3_firstRunInto 19 = .ok (.iload_n 1, 1) := by decide +kernel
theorem dX3_firstRunInto_20 : decode cX3_firstRunInto 20 = .ok (.iconst 1, 1) := by decide +kernel
theorem dX3_firstRunInto_21 : decode cX3_firstRunInto 21 = .ok (.iadd, 1) := by decide +kernel
theorem dX3_firstRunInto_22 : decode cX3_firstRunInto 22 = .ok (.istore 5, 2) := by decide +kernel
theorem dX3_firstRunInto_24 : decode cX3_firstRunInto 24 = .ok (.iload 5, 2) := by decide +kernel
theorem dX3_firstRunInto_26 : decode cX3_firstRunInto 26 = .ok (.iload 4, 2) := by decide +kernel
theorem dX3_firstRunInto_28 : decode cX3_firstRunInto 28 = .ok (.if_icmp .ge 35, 3) := by decide +kernel
theorem dX3_firstRunInto_31 : decode cX3_firstRunInto 31 = .ok (.aload_n 0, 1) := by decide +kernel
theorem dX3_firstRunInto_32 : decode cX3_firstRunInto 32 = .ok (.iload 5, 2) := by decide +kernel
theorem dX3_firstRunInto_34 : decode cX3_firstRunInto 34 = .ok (.invokevirtual 138, 3) := by decide +kernel
theorem dX3_firstRunInto_37 : decode cX3_firstRunInto 37 = .ok (.astore 6, 2) := by decide +kernel
theorem dX3_firstRunInto_39 : decode cX3_firstRunInto 39 = .ok (.aload 6, 2) := by decide +kernel
theorem dX3_firstRunInto_41 : decode cX3_firstRunInto 41 = .ok (.ifnull 16, 3) := by decide +kernel
theorem dX3_firstRunInto_44 : decode cX3_firstRunInto 44 = .ok (.aload_n 3, 1) := by decide +kernel
theorem dX3_firstRunInto_45 : decode cX3_firstRunInto 45 = .ok (.aload 6, 2) := by decide +kernel
theorem dX3_firstRunInto_47 : decode cX3_firstRunInto 47 = .ok (.iload_n 2, 1) := by decide +kernel
theorem dX3_firstRunInto_48 : decode cX3_firstRunInto 48 = .ok (.invokevirtual 158, 3) := by decide +kernel
theorem dX3_firstRunInto_51 : decode cX3_firstRunInto 51 = .ok (.ifCond .eq 6, 3) := by decide +kernel
theorem dX3_firstRunInto_54 : decode cX3_firstRunInto 54 = .ok (.iload 5, 2) := by decide +kernel
theorem dX3_firstRunInto_56 : decode cX3_firstRunInto 56 = .ok (.ireturn, 1) := by decide +kernel
theorem dX3_firstRunInto_57 : decode cX3_firstRunInto 57 = .ok (.iinc 5 1, 3) := by decide +kernel
theorem dX3_firstRunInto_60 : decode cX3_firstRunInto 60 = .ok (.goto (-36), 3) := by decide +kernel
theorem dX3_firstRunInto_63 : decode cX3_firstRunInto 63 = .ok (.bipush (-9), 2) := by decide +kernel
theorem dX3_firstRunInto_65 : decode cX3_firstRunInto 65 = .ok (.ireturn, 1) := by decide +kernel
theorem dX4_init_0 : decode cX4_init 0 = .ok (.aload_n 0, 1) := by decide +kernel
theorem dX4_init_1 : decode cX4_init 1 = .ok (.invokespecial 1, 3) := by decide +kernel
theorem dX4_init_4 : decode cX4_init 4 = .ok (.aload_n 0, 1) := by decide +kernel
theorem dX4_init_5 : decode cX4_init 5 = .ok (.sipush 200, 3) := by decide +kernel
theorem dX4_init_8 : decode cX4_init 8 = .ok (.putfield 7, 3) := by decide +kernel
theorem dX4_init_11 : decode cX4_init 11 = .ok (.aload_n 0, 1) := by decide +kernel
theorem dX4_init_12 : decode cX4_init 12 = .ok (.iconst 2, 1) := by decide +kernel
theorem dX4_init_13 : decode cX4_init 13 = .ok (.putfield 13, 3) := by decide +kernel
theorem dX4_init_16 : decode cX4_init 16 = .ok (.aload_n 0, 1) := by decide +kernel
theorem dX4_init_17 : decode cX4_init 17 = .ok (.bipush 30, 2) := by decide +kernel
theorem dX4_init_19 : decode cX4_init 19 = .ok (.newarray .int, 2) := by decide +kernel
theorem dX4_init_21 : decode cX4_init 21 = .ok (.putfield 16, 3) := by decide +kernel
theorem dX4_init_24 : decode cX4_init 24 = .ok (.aload_n 0, 1) := by decide +kernel
theorem dX4_init_25 : decode cX4_init 25 = .ok (.bipush 60, 2) := by decide +kernel
theorem dX4_init_27 : decode cX4_init 27 = .ok (.newarray .int, 2) := by decide +kernel
theorem dX4_init_29 : decode cX4_init 29 = .ok (.putfield 20, 3) := by decide +kernel
theorem dX4_init_32 : decode cX4_init 32 = .ok (.aload_n 0, 1) := by decide +kernel
theorem dX4_init_33 : decode cX4_init 33 = .ok (.bipush 60, 2) := by decide +kernel
theorem dX4_init_35 : decode cX4_init 35 = .ok (.newarray .int, 2) := by decide +kernel
theorem dX4_init_37 : decode cX4_init 37 = .ok (.putfield 23, 3) := by decide +kernel
theorem dX4_init_40 : decode cX4_init 40 = .ok (.aload_n 0, 1) := by decide +kernel
theorem dX4_init_41 : decode cX4_init 41 = .ok (.bipush 60, 2) := by decide +kernel
theorem dX4_init_43 : decode cX4_init 43 = .ok (.newarray .int, 2) := by decide +kernel
theorem dX4_init_45 : decode cX4_init 45 = .ok (.putfield 26, 3) := by decide +kernel
theorem dX4_init_48 : decode cX4_init 48 = .ok (.aload_n 0, 1) := by decide +kernel
theorem dX4_init_49 : decode cX4_init 49 = .ok (.bipush 30, 2) := by decide +kernel
theorem dX4_init_51 : decode cX4_init 51 = .ok (.newarray .boolean, 2) := by decide +kernel
theorem dX4_init_53 : decode cX4_init 53 = .ok (.putfield 29, 3) := by decide +kernel
theorem dX4_init_56 : decode cX4_init 56 = .ok (.aload_n 0, 1) := by decide +kernel
theorem dX4_init_57 : decode cX4_init 57 = .ok (.bipush 30, 2) := by decide +kernel
theorem dX4_init_59 : decode cX4_init 59 = .ok (.newarray .boolean, 2) := by decide +kernel
theorem dX4_init_61 : decode cX4_init 61 = .ok (.putfield 33, 3) := by decide +kernel
theorem dX4_init_64 : decode cX4_init 64 = .ok (.aload_n 0, 1) := by decide +kernel
theorem dX4_init_65 : decode cX4_init 65 = .ok (.bipush 7, 2) := by decide +kernel
theorem dX4_init_67 : decode cX4_init 67 = .ok (.newarray .int, 2) := by decide +kernel
theorem dX4_init_69 : decode cX4_init 69 = .ok (.putfield 36, 3) := by decide +kernel
theorem dX4_init_72 : decode cX4_init 72 = .ok (.aload_n 0, 1) := by decide +kernel
theorem dX4_init_73 : decode cX4_init 73 = .ok (.bipush 9, 2) := by decide +kernel
theorem dX4_init_75 : decode cX4_init 75 = .ok (.newarray .int, 2) := by decide +kernel
theorem dX4_init_77 : decode cX4_init 77 = .ok (.dup, 1) := by decide +kernel
theorem dX4_init_78 : decode cX4_init 78 = .ok (.iconst 0, 1) := by decide +kernel
theorem dX4_init_79 : decode cX4_init 79 = .ok (.sipush 10000, 3) := by decide +kernel
theorem dX4_init_82 : decode cX4_init 82 = .ok (.iastore, 1) := by decide +kernel
theorem dX4_init_83 : decode cX4_init 83 = .ok (.dup, 1) := by decide +kernel
theorem dX4_init_84 : decode cX4_init 84 = .ok (.iconst 1, 1) := by decide +kernel
theorem dX4_init_85 : decode cX4_init 85 = .ok (.sipush 9808, 3) := by decide +kernel
theorem dX4_init_88 : decode cX4_init 88 = .ok (.iastore, 1) := by decide +kernel
theorem dX4_init_89 : decode cX4_init 89 = .ok (.dup, 1) := by decide +kernel
theorem dX4_init_90 : decode cX4_init 90 = .ok (.iconst 2, 1) := by decide +kernel
theorem dX4_init_91 : decode cX4_init 91 = .ok (.sipush 9239, 3) := by decide +kernel
theorem dX4_init_94 : decode cX4_init 94 = .ok (.iastore, 1) := by decide +kernel
theorem dX4_init_95 : decode cX4_init 95 = .ok (.dup, 1) := by decide +kernel
theorem dX4_init_96 : decode cX4_init 96 = .ok (.iconst 3, 1) := by decide +kernel
theorem dX4_init_97 : decode cX4_init 97 = .ok (.sipush 8315, 3) := by decide +kernel
theorem dX4_init_100 : decode cX4_init 100 = .ok (.iastore, 1) := by decide +kernel
theorem dX4_init_101 : decode cX4_init 101 = .ok (.dup, 1) := by decide +kernel
theorem dX4_init_102 : decode cX4_init 102 = .ok (.iconst 4, 1) := by decide +kernel
theorem dX4_init_103 : decode cX4_init 103 = .ok (.sipush 7071, 3) := by decide +kernel
theorem dX4_init_106 : decode cX4_init 106 = .ok (.iastore, 1) := by decide +kernel
theorem dX4_init_107 : decode cX4_init 107 = .ok (.dup, 1) := by decide +kernel
theorem dX4_init_108 : decode cX4_init 108 = .ok (.iconst 5, 1) := by decide +kernel
theorem dX4_init_109 : decode cX4_init 109 = .ok (.sipush 5556, 3) := by decide +kernel
theorem dX4_init_112 : decode cX4_init 112 = .ok (.iastore, 1) := by decide +kernel
theorem dX4_init_113 : decode cX4_init 113 = .ok (.dup, 1) := by decide +kernel
theorem dX4_init_114 : decode cX4_init 114 = .ok (.bipush 6, 2) := by decide +kernel
theorem dX4_init_116 : decode cX4_init 116 = .ok (.sipush 3827, 3) := by decide +kernel
theorem dX4_init_119 : decode cX4_init 119 = .ok (.iastore, 1) := by decide +kernel
theorem dX4_init_120 : decode cX4_init 120 = .ok (.dup, 1) := by decide +kernel
theorem dX4_init_121 : decode cX4_init 121 = .ok (.bipush 7, 2) := by decide +kernel
theorem dX4_init_123 : decode cX4_init 123 = .ok (.sipush 1951, 3) := by decide +kernel
theorem dX4_init_126 : decode cX4_init 126 = .ok (.iastore, 1) := by decide +kernel
theorem dX4_init_127 : decode cX4_init 127 = .ok (.dup, 1) := by decide +kernel
theorem dX4_init_128 : decode cX4_init 128 = .ok (.bipush 8, 2) := by decide +kernel
theorem dX4_init_130 : decode cX4_init 130 = .ok (.iconst 0, 1) := by decide +kernel
theorem dX4_init_131 : decode cX4_init 131 = .ok (.iastore, 1) := by decide +kernel
theorem dX4_init_132 : decode cX4_init 132 = .ok (.putfield 39, 3) := by decide +kernel
theorem dX4_init_135 : decode cX4_init 135 = .ok (.aload_n 0, 1) := by decide +kernel
theorem dX4_init_136 : decode cX4_init 136 = .ok (.bipush 30, 2) := by decide +kernel
theorem dX4_init_138 : decode cX4_init 138 = .ok (.newarray .long, 2) := by decide +kernel
theorem dX4_init_140 : decode cX4_init 140 = .ok (.putfield 42, 3) := by decide +kernel
theorem dX4_init_143 : decode cX4_init 143 = .ok (.aload_n 0, 1) := by decide +kernel
theorem dX4_init_144 : decode cX4_init 144 = .ok (.bipush 30, 2) := by decide +kernel
theorem dX4_init_146 : decode cX4_init 146 = .ok (.newarray .long, 2) := by decide +kernel
theorem dX4_init_148 : decode cX4_init 148 = .ok (.putfield 46, 3) := by decide +kernel
theorem dX4_init_151 : decode cX4_init 151 = .ok (.aload_n 0, 1) := by decide +kernel
theorem dX4_init_152 : decode cX4_init 152 = .ok (.bipush 30, 2) := by decide +kernel
theorem dX4_init_154 : decode cX4_init 154 = .ok (.newarray .boolean, 2) := by decide +kernel
theorem dX4_init_156 : decode cX4_init 156 = .ok (.putfield 49, 3) := by decide +kernel
theorem dX4_init_159 : decode cX4_init 159 = .ok (.aload_n 0, 1) := by decide +kernel
theorem dX4_init_160 : decode cX4_init 160 = .ok (.bipush 32, 2) := by decide +kernel
theorem dX4_init_162 : decode cX4_init 162 = .ok (.newarray .int, 2) := by decide +kernel
theorem dX4_init_164 : decode cX4_init 164 = .ok (.putfield 52, 3) := by decide +kernel
theorem dX4_init_167 : decode cX4_init 167 = .ok (.aload_n 0, 1) := by decide +kernel
theorem dX4_init_168 : decode cX4_init 168 = .ok (.bipush 62, 2) := by decide +kernel
theorem dX4_init_170 : decode cX4_init 170 = .ok (.newarray .long, 2) := by decide +kernel
theorem dX4_init_172 : decode cX4_init 172 = .ok (.putfield 55, 3) := by decide +kernel
theorem dX4_init_175 : decode cX4_init 175 = .ok (.aload_n 0, 1) := by decide +kernel
theorem dX4_init_176 : decode cX4_init 176 = .ok (.bipush 62, 2) := by decide +kernel
theorem dX4_init_178 : decode cX4_init 178 = .ok (.newarray .long, 2) := by decide +kernel
theorem dX4_init_180 : decode cX4_init 180 = .ok (.putfield 58, 3) := by decide +kernel
theorem dX4_init_183 : decode cX4_init 183 = .ok (.aload_n 0, 1) := by decide +kernel
theorem dX4_init_184 : decode cX4_init 184 = .ok (.bipush 62, 2) := by decide +kernel
theorem dX4_init_186 : decode cX4_init 186 = .ok (.newarray .long, 2) := by decide +kernel
theorem dX4_init_188 : decode cX4_init 188 = .ok (.putfield 61, 3) := by decide +kernel
theorem dX4_init_191 : decode cX4_init 191 = .ok (.aload_n 0, 1) := by decide +kernel
theorem dX4_init_192 : decode cX4_init 192 = .ok (.bipush 62, 2) := by decide +kernel
theorem dX4_init_194 : decode cX4_init 194 = .ok (.newarray .long, 2) := by decide +kernel
theorem dX4_init_196 : decode cX4_init 196 = .ok (.putfield 64, 3) := by decide +kernel
theorem dX4_init_199 : decode cX4_init 199 = .ok (.aload_n 0, 1) := by decide +kernel
theorem dX4_init_200 : decode cX4_init 200 = .ok (.bipush 62, 2) := by decide +kernel
theorem dX4_init_202 : decode cX4_init 202 = .ok (.newarray .boolean, 2) := by decide +kernel
theorem dX4_init_204 : decode cX4_init 204 = .ok (.putfield 67, 3) := by decide +kernel
theorem dX4_init_207 : decode cX4_init 207 = .ok (.aload_n 0, 1) := by decide +kernel
theorem dX4_init_208 : decode cX4_init 208 = .ok (.bipush 30, 2) := by decide +kernel
theorem dX4_init_210 : decode cX4_init 210 = .ok (.newarray .long, 2) := by decide +kernel
theorem dX4_init_212 : decode cX4_init 212 = .ok (.putfield 70, 3) := by decide +kernel
theorem dX4_init_215 : decode cX4_init 215 = .ok (.aload_n 0, 1) := by decide +kernel
theorem dX4_init_216 : decode cX4_init 216 = .ok (.bipush 30, 2) := by decide +kernel
theorem dX4_init_218 : decode cX4_init 218 = .ok (.newarray .long, 2) := by decide +kernel
theorem dX4_init_220 : decode cX4_init 220 = .ok (.putfield 73, 3) := by decide +kernel
theorem dX4_init_223 : decode cX4_init 223 = .ok (.aload_n 0, 1) := by decide +kernel
theorem dX4_init_224 : decode cX4_init 224 = .ok (.bipush 30, 2) := by decide +kernel
theorem dX4_init_226 : decode cX4_init 226 = .ok (.newarray .boolean, 2) := by decide +kernel
theorem dX4_init_228 : decode cX4_init 228 = .ok (.putfield 76, 3) := by decide +kernel
theorem dX4_init_231 : decode cX4_init 231 = .ok (.return_, 1) := by decide +kernel
theorem dX4_in_0 : decode cX4_in 0 = .ok (.lload_n 0, 1) := by decide +kernel
theorem dX4_in_1 : decode cX4_in 1 = .ok (.lload_n 2, 1) := by decide +kernel
theorem dX4_in_2 : decode cX4_in 2 = .ok (.lcmp, 1) := by decide +kernel
theorem dX4_in_3 : decode cX4_in 3 = .ok (.ifCond .lt 14, 3) := by decide +kernel
theorem dX4_in_6 : decode cX4_in 6 = .ok (.lload_n 0, 1) := by decide +kernel
theorem dX4_in_7 : decode cX4_in 7 = .ok (.lload 4, 2) := by decide +kernel
theorem dX4_in_9 : decode cX4_in 9 = .ok (.lcmp, 1) := by decide +kernel
theorem dX4_in_10 : decode cX4_in 10 = .ok (.ifCond .gt 7, 3) := by decide +kernel
theorem dX4_in_13 : decode cX4_in 13 = .ok (.iconst 1, 1) := by decide +kernel
theorem dX4_in_14 : decode cX4_in 14 = .ok (.goto 4, 3) := by decide +kernel
theorem dX4_in_17 : decode cX4_in 17 = .ok (.iconst 0, 1) := by decide +kernel
theorem dX4_in_18 : decode cX4_in 18 = .ok (.ireturn, 1) := by decide +kernel
theorem dX4_refuse_0 : decode cX4_refuse 0 = .ok (.aload_n 0, 1) := by decide +kernel
theorem dX4_refuse_1 : decode cX4_refuse 1 = .ok (.getfield 36, 3) := by decide +kernel
theorem dX4_refuse_4 : decode cX4_refuse 4 = .ok (.iload_n 1, 1) := by decide +kernel
theorem dX4_refuse_5 : decode cX4_refuse 5 = .ok (.ineg, 1) := by decide +kernel
theorem dX4_refuse_6 : decode cX4_refuse 6 = .ok (.dup2, 1) := by decide +kernel
theorem dX4_refuse_7 : decode cX4_refuse 7 = .ok (.iaload, 1) := by decide +kernel
theorem dX4_refuse_8 : decode cX4_refuse 8 = .ok (.iconst 1, 1) := by decide +kernel
theorem dX4_refuse_9 : decode cX4_refuse 9 = .ok (.iadd, 1) := by decide +kernel
theorem dX4_refuse_10 : decode cX4_refuse 10 = .ok (.iastore, 1) := by decide +kernel
theorem dX4_refuse_11 : decode cX4_refuse 11 = .ok (.iload_n 1, 1) := by decide +kernel
theorem dX4_refuse_12 : decode cX4_refuse 12 = .ok (.ireturn, 1) := by decide +kernel
theorem dX4_refuseBig_0 : decode cX4_refuseBig 0 = .ok (.aload_n 0, 1) := by decide +kernel
theorem dX4_refuseBig_1 : decode cX4_refuseBig 1 = .ok (.getfield 36, 3) := by decide +kernel
theorem dX4_refuseBig_4 : decode cX4_refuseBig 4 = .ok (.iload_n 1, 1) := by decide +kernel
theorem dX4_refuseBig_5 : decode cX4_refuseBig 5 = .ok (.ineg, 1) := by decide +kernel
theorem dX4_refuseBig_6 : decode cX4_refuseBig 6 = .ok (.dup2, 1) := by decide +kernel
theorem dX4_refuseBig_7 : decode cX4_refuseBig 7 = .ok (.iaload, 1) := by decide +kernel
theorem dX4_refuseBig_8 : decode cX4_refuseBig 8 = .ok (.iconst 1, 1) := by decide +kernel
theorem dX4_refuseBig_9 : decode cX4_refuseBig 9 = .ok (.iadd, 1) := by decide +kernel
theorem dX4_refuseBig_10 : decode cX4_refuseBig 10 = .ok (.iastore, 1) := by decide +kernel
theorem dX4_refuseBig_11 : decode cX4_refuseBig 11 = .ok (.ldc 79, 2) := by decide +kernel
theorem dX4_refuseBig_13 : decode cX4_refuseBig 13 = .ok (.iload_n 1, 1) := by decide +kernel
theorem dX4_refuseBig_14 : decode cX4_refuseBig 14 = .ok (.isub, 1) := by decide +kernel
theorem dX4_refuseBig_15 : decode cX4_refuseBig 15 = .ok (.ireturn, 1) := by decide +kernel
theorem dX4_isPart_0 : decode cX4_isPart 0 = .ok (.iload_n 1, 1) := by decide +kernel
theorem dX4_isPart_1 : decode cX4_isPart 1 = .ok (.i2l, 1) := by decide +kernel
theorem dX4_isPart_2 : decode cX4_isPart 2 = .ok (.lconst 0, 1) := by decide +kernel
theorem dX4_isPart_3 : decode cX4_isPart 3 = .ok (.aload_n 0, 1) := by decide +kernel
theorem dX4_isPart_4 : decode cX4_isPart 4 = .ok (.getfield 80, 3) := by decide +kernel
theorem dX4_isPart_7 : decode cX4_isPart 7 = .ok (.iconst 1, 1) := by decide +kernel
theorem dX4_isPart_8 : decode cX4_isPart 8 = .ok (.isub, 1) := by decide +kernel
theorem dX4_isPart_9 : decode cX4_isPart 9 = .ok (.i2l, 1) := by decide +kernel
theorem dX4_isPart_10 : decode cX4_isPart 10 = .ok (.invokestatic 83, 3) := by decide +kernel
theorem dX4_isPart_13 : decode cX4_isPart 13 = .ok (.ifCond .eq 16, 3) := by decide +kernel
theorem dX4_isPart_16 : decode cX4_isPart 16 = .ok (.aload_n 0, 1) := by decide +kernel
theorem dX4_isPart_17 : decode cX4_isPart 17 = .ok (.getfield 33, 3) := by decide +kernel
theorem dX4_isPart_20 : decode cX4_isPart 20 = .ok (.iload_n 1, 1) := by decide +kernel
theorem dX4_isPart_21 : decode cX4_isPart 21 = .ok (.baload, 1) := by decide +kernel
theorem dX4_isPart_22 : decode cX4_isPart 22 = .ok (.ifCond .eq 7, 3) := by decide +kernel
theorem dX4_isPart_25 : decode cX4_isPart 25 = .ok (.iconst 1, 1) := by decide +kernel
theorem dX4_isPart_26 : decode cX4_isPart 26 = .ok (.goto 4, 3) := by decide +kernel
theorem dX4_isPart_29 : decode cX4_isPart 29 = .ok (.iconst 0, 1) := by decide +kernel
theorem dX4_isPart_30 : decode cX4_isPart 30 = .ok (.ireturn, 1) := by decide +kernel
theorem dX4_isPlane_0 : decode cX4_isPlane 0 = .ok (.iload_n 1, 1) := by decide +kernel
theorem dX4_isPlane_1 : decode cX4_isPlane 1 = .ok (.i2l, 1) := by decide +kernel
theorem dX4_isPlane_2 : decode cX4_isPlane 2 = .ok (.lconst 0, 1) := by decide +kernel
theorem dX4_isPlane_3 : decode cX4_isPlane 3 = .ok (.lconst 1, 1) := by decide +kernel
theorem dX4_isPlane_4 : decode cX4_isPlane 4 = .ok (.invokestatic 83, 3) := by decide +kernel
theorem dX4_isPlane_7 : decode cX4_isPlane 7 = .ok (.ifCond .ne 36, 3) := by decide +kernel
theorem dX4_isPlane_10 : decode cX4_isPlane 10 = .ok (.iload_n 1, 1) := by decide +kernel
theorem dX4_isPlane_11 : decode cX4_isPlane 11 = .ok (.i2l, 1) := by decide +kernel
theorem dX4_isPlane_12 : decode cX4_isPlane 12 = .ok (.ldc2_w 87, 3) := by decide +kernel
theorem dX4_isPlane_15 : decode cX4_isPlane 15 = .ok (.iconst 2, 1) := by decide +kernel
theorem dX4_isPlane_16 : decode cX4_isPlane 16 = .ok (.aload_n 0, 1) := by decide +kernel
theorem dX4_isPlane_17 : decode cX4_isPlane 17 = .ok (.getfield 80, 3) := by decide +kernel
theorem dX4_isPlane_20 : decode cX4_isPlane 20 = .ok (.imul, 1) := by decide +kernel
theorem dX4_isPlane_21 : decode cX4_isPlane 21 = .ok (.iconst 1, 1) := by decide +kernel
theorem dX4_isPlane_22 : decode cX4_isPlane 22 = .ok (.iadd, 1) := by decide +kernel
theorem dX4_isPlane_23 : decode cX4_isPlane 23 = .ok (.i2l, 1) := by decide +kernel
theorem dX4_isPlane_24 : decode cX4_isPlane 24 = .ok (.invokestatic 83, 3) := by decide +kernel
theorem dX4_isPlane_27 : decode cX4_isPlane 27 = .ok (.ifCond .eq 20, 3) := by decide +kernel
theorem dX4_isPlane_30 : decode cX4_isPlane 30 = .ok (.aload_n 0, 1) := by decide +kernel
theorem dX4_isPlane_31 : decode cX4_isPlane 31 = .ok (.getfield 33, 3) := by decide +kernel
theorem dX4_isPlane_34 : decode cX4_isPlane 34 = .ok (.iload_n 1, 1) := by decide +kernel
theorem dX4_isPlane_35 : decode cX4_isPlane 35 = .ok (.iconst 2, 1) := by decide +kernel
theorem dX4_isPlane_36 : decode cX4_isPlane 36 = .ok (.idiv, 1) := by decide +kernel
theorem dX4_isPlane_37 : decode cX4_isPlane 37 = .ok (.iconst 1, 1) := by decide +kernel
theorem dX4_isPlane_38 : decode cX4_isPlane 38 = .ok (.isub, 1) := by decide +kernel
theorem dX4_isPlane_39 : decode cX4_isPlane 39 = .ok (.baload, 1) := by decide +kernel
theorem dX4_isPlane_40 : decode cX4_isPlane 40 = .ok (.ifCond .eq 7, 3) := by decide +kernel
theorem dX4_isPlane_43 : decode cX4_isPlane 43 = .ok (.iconst 1, 1) := by decide +kernel
theorem dX4_isPlane_44 : decode cX4_isPlane 44 = .ok (.goto 4, 3) := by decide +kernel
theorem dX4_isPlane_47 : decode cX4_isPlane 47 = .ok (.iconst 0, 1) := by decide +kernel
theorem dX4_isPlane_48 : decode cX4_isPlane 48 = .ok (.ireturn, 1) := by decide +kernel
theorem dX4_isStep_0 : decode cX4_isStep 0 = .ok (.iload_n 0, 1) := by decide +kernel
theorem dX4_isStep_1 : decode cX4_isStep 1 = .ok (.i2l, 1) := by decide +kernel
theorem dX4_isStep_2 : decode cX4_isStep 2 = .ok (.lconst 0, 1) := by decide +kernel
theorem dX4_isStep_3 : decode cX4_isStep 3 = .ok (.ldc2_w 89, 3) := by decide +kernel
theorem dX4_isStep_6 : decode cX4_isStep 6 = .ok (.invokestatic 83, 3) := by decide +kernel
theorem dX4_isStep_9 : decode cX4_isStep 9 = .ok (.ireturn, 1) := by decide +kernel
theorem dX4_sizeOf_0 : decode cX4_sizeOf 0 = .ok (.iload_n 1, 1) := by decide +kernel
theorem dX4_sizeOf_1 : decode cX4_sizeOf 1 = .ok (.iconst 2, 1) := by decide +kernel
theorem dX4_sizeOf_2 : decode cX4_sizeOf 2 = .ok (.if_icmp .ge 10, 3) := by decide +kernel
theorem dX4_sizeOf_5 : decode cX4_sizeOf 5 = .ok (.aload_n 0, 1) := by decide +kernel
theorem dX4_sizeOf_6 : decode cX4_sizeOf 6 = .ok (.getfield 7, 3) := by decide +kernel
theorem dX4_sizeOf_9 : decode cX4_sizeOf 9 = .ok (.goto 11, 3) := by decide +kernel
theorem dX4_sizeOf_12 : decode cX4_sizeOf 12 = .ok (.aload_n 0, 1) := by decide +kernel
theorem dX4_sizeOf_13 : decode cX4_sizeOf 13 = .ok (.getfield 26, 3) := by decide +kernel
theorem dX4_sizeOf_16 : decode cX4_sizeOf 16 = .ok (.iload_n 1, 1) := by decide +kernel
theorem dX4_sizeOf_17 : decode cX4_sizeOf 17 = .ok (.iconst 2, 1) := by decide +kernel
theorem dX4_sizeOf_18 : decode cX4_sizeOf 18 = .ok (.isub, 1) := by decide +kernel
theorem dX4_sizeOf_19 : decode cX4_sizeOf 19 = .ok (.iaload, 1) := by decide +kernel
theorem dX4_sizeOf_20 : decode cX4_sizeOf 20 = .ok (.ireturn, 1) := by decide +kernel
theorem dX4_manyThere_0 : decode cX4_manyThere 0 = .ok (.iconst 0, 1) := by decide +kernel
theorem dX4_manyThere_1 : decode cX4_manyThere 1 = .ok (.istore_n 1, 1) := by decide +kernel
theorem dX4_manyThere_2 : decode cX4_manyThere 2 = .ok (.iconst 0, 1) := by decide +kernel
theorem dX4_manyThere_3 : decode cX4_manyThere 3 = .ok (.istore_n 2, 1) := by decide +kernel
theorem dX4_manyThere_4 : decode cX4_manyThere 4 = .ok (.iload_n 2, 1) := by decide +kernel
theorem dX4_manyThere_5 : decode cX4_manyThere 5 = .ok (.aload_n 0, 1) := by decide +kernel
theorem dX4_manyThere_6 : decode cX4_manyThere 6 = .ok (.getfield 80, 3) := by decide +kernel
theorem dX4_manyThere_9 : decode cX4_manyThere 9 = .ok (.if_icmp .ge 26, 3) := by decide +kernel
theorem dX4_manyThere_12 : decode cX4_manyThere 12 = .ok (.iload_n 1, 1) := by decide +kernel
theorem dX4_manyThere_13 : decode cX4_manyThere 13 = .ok (.aload_n 0, 1) := by decide +kernel
theorem dX4_manyThere_14 : decode cX4_manyThere 14 = .ok (.getfield 33, 3) := by decide +kernel
theorem dX4_manyThere_17 : decode cX4_manyThere 17 = .ok (.iload_n 2, 1) := by decide +kernel
theorem dX4_manyThere_18 : decode cX4_manyThere 18 = .ok (.baload, 1) := by decide +kernel
theorem dX4_manyThere_19 : decode cX4_manyThere 19 = .ok (.ifCond .eq 7, 3) := by decide +kernel
theorem dX4_manyThere_22 : decode cX4_manyThere 22 = .ok (.iconst 1, 1) := by decide +kernel
theorem dX4_manyThere_23 : decode cX4_manyThere 23 = .ok (.goto 4, 3) := by decide +kernel
theorem dX4_manyThere_26 : decode cX4_manyThere 26 = .ok (.iconst 0, 1) := by decide +kernel
theorem dX4_manyThere_27 : decode cX4_manyThere 27 = .ok (.iadd, 1) := by decide +kernel
theorem dX4_manyThere_28 : decode cX4_manyThere 28 = .ok (.istore_n 1, 1) := by decide +kernel
theorem dX4_manyThere_29 : decode cX4_manyThere 29 = .ok (.iinc 2 1, 3) := by decide +kernel
theorem dX4_manyThere_32 : decode cX4_manyThere 32 = .ok (.goto (-28), 3) := by decide +kernel
theorem dX4_manyThere_35 : decode cX4_manyThere 35 = .ok (.iload_n 1, 1) := by decide +kernel
theorem dX4_manyThere_36 : decode cX4_manyThere 36 = .ok (.ireturn, 1) := by decide +kernel
theorem dX4_width_0 : decode cX4_width 0 = .ok (.aload_n 0, 1) := by decide +kernel
theorem dX4_width_1 : decode cX4_width 1 = .ok (.invokevirtual 91, 3) := by decide +kernel
theorem dX4_width_4 : decode cX4_width 4 = .ok (.ifCond .le 10, 3) := by decide +kernel
theorem dX4_width_7 : decode cX4_width 7 = .ok (.aload_n 0, 1) := by decide +kernel
theorem dX4_width_8 : decode cX4_width 8 = .ok (.bipush (-3), 2) := by decide +kernel
theorem dX4_width_10 : decode cX4_width 10 = .ok (.invokevirtual 95, 3) := by decide +kernel
theorem dX4_width_13 : decode cX4_width 13 = .ok (.ireturn, 1) := by decide +kernel
theorem dX4_width_14 : decode cX4_width 14 = .ok (.iload_n 1, 1) := by decide +kernel
theorem dX4_width_15 : decode cX4_width 15 = .ok (.iconst 1, 1) := by decide +kernel
theorem dX4_width_16 : decode cX4_width 16 = .ok (.if_icmp .ge 10, 3) := by decide +kernel
theorem dX4_width_19 : decode cX4_width 19 = .ok (.aload_n 0, 1) := by decide +kernel
theorem dX4_width_20 : decode cX4_width 20 = .ok (.bipush (-4), 2) := by decide +kernel
theorem dX4_width_22 : decode cX4_width 22 = .ok (.invokevirtual 95, 3) := by decide +kernel
theorem dX4_width_25 : decode cX4_width 25 = .ok (.ireturn, 1) := by decide +kernel
theorem dX4_width_26 : decode cX4_width 26 = .ok (.iload_n 1, 1) := by decide +kernel
theorem dX4_width_27 : decode cX4_width 27 = .ok (.sipush 1000, 3) := by decide +kernel
theorem dX4_width_30 : decode cX4_width 30 = .ok (.if_icmp .le 10, 3) := by decide +kernel
theorem dX4_width_33 : decode cX4_width 33 = .ok (.aload_n 0, 1) := by decide +kernel
theorem dX4_width_34 : decode cX4_width 34 = .ok (.bipush (-6), 2) := by decide +kernel
theorem dX4_width_36 : decode cX4_width 36 = .ok (.invokevirtual 95, 3) := by decide +kernel
theorem dX4_width_39 : decode cX4_width 39 = .ok (.ireturn, 1) := by decide +kernel
theorem dX4_width_40 : decode cX4_width 40 = .ok (.aload_n 0, 1) := by decide +kernel
theorem dX4_width_41 : decode cX4_width 41 = .ok (.getfield 7, 3) := by decide +kernel
theorem dX4_width_44 : decode cX4_width 44 = .ok (.istore_n 2, 1) := by decide +kernel
theorem dX4_width_45 : decode cX4_width 45 = .ok (.aload_n 0, 1) := by decide +kernel
theorem dX4_width_46 : decode cX4_width 46 = .ok (.iload_n 1, 1) := by decide +kernel
theorem dX4_width_47 : decode cX4_width 47 = .ok (.putfield 7, 3) := by decide +kernel
theorem dX4_width_50 : decode cX4_width 50 = .ok (.iload_n 2, 1) := by decide +kernel
theorem dX4_width_51 : decode cX4_width 51 = .ok (.ireturn, 1) := by decide +kernel
theorem dX4_tolerance_0 : decode cX4_tolerance 0 = .ok (.iload_n 1, 1) := by decide +kernel
theorem dX4_tolerance_1 : decode cX4_tolerance 1 = .ok (.ifCond .ge 10, 3) := by decide +kernel
theorem dX4_tolerance_4 : decode cX4_tolerance 4 = .ok (.aload_n 0, 1) := by decide +kernel
theorem dX4_tolerance_5 : decode cX4_tolerance 5 = .ok (.bipush (-4), 2) := by decide +kernel
theorem dX4_tolerance_7 : decode cX4_tolerance 7 = .ok (.invokevirtual 95, 3) := by decide +kernel
theorem dX4_tolerance_10 : decode cX4_tolerance 10 = .ok (.ireturn, 1) := by decide +kernel
theorem dX4_tolerance_11 : decode cX4_tolerance 11 = .ok (.iload_n 1, 1) := by decide +kernel
theorem dX4_tolerance_12 : decode cX4_tolerance 12 = .ok (.bipush 100, 2) := by decide +kernel
theorem dX4_tolerance_14 : decode cX4_tolerance 14 = .ok (.if_icmp .le 10, 3) := by decide +kernel
theorem dX4_tolerance_17 : decode cX4_tolerance 17 = .ok (.aload_n 0, 1) := by decide +kernel
theorem dX4_tolerance_18 : decode cX4_tolerance 18 = .ok (.bipush (-6), 2) := by decide +kernel
theorem dX4_tolerance_20 : decode cX4_tolerance 20 = .ok (.invokevirtual 95, 3) := by decide +kernel
theorem dX4_tolerance_23 : decode cX4_tolerance 23 = .ok (.ireturn, 1) := by decide +kernel
theorem dX4_tolerance_24 : decode cX4_tolerance 24 = .ok (.aload_n 0, 1) := by decide +kernel
theorem dX4_tolerance_25 : decode cX4_tolerance 25 = .ok (.getfield 13, 3) := by decide +kernel
theorem dX4_tolerance_28 : decode cX4_tolerance 28 = .ok (.istore_n 2, 1) := by decide +kernel
theorem dX4_tolerance_29 : decode cX4_tolerance 29 = .ok (.aload_n 0, 1) := by decide +kernel
theorem dX4_tolerance_30 : decode cX4_tolerance 30 = .ok (.iload_n 1, 1) := by decide +kernel
theorem dX4_tolerance_31 : decode cX4_tolerance 31 = .ok (.putfield 13, 3) := by decide +kernel
theorem dX4_tolerance_34 : decode cX4_tolerance 34 = .ok (.iload_n 2, 1) := by decide +kernel
theorem dX4_tolerance_35 : decode cX4_tolerance 35 = .ok (.ireturn, 1) := by decide +kernel
theorem dX4_floor_0 : decode cX4_floor 0 = .ok (.lload_n 0, 1) := by decide +kernel
theorem dX4_floor_1 : decode cX4_floor 1 = .ok (.lload_n 2, 1) := by decide +kernel
theorem dX4_floor_2 : decode cX4_floor 2 = .ok (.ldiv, 1) := by decide +kernel
theorem dX4_floor_3 : decode cX4_floor 3 = .ok (.lstore 4, 2) := by decide +kernel
theorem dX4_floor_5 : decode cX4_floor 5 = .ok (.lload_n 0, 1) := by decide +kernel
theorem dX4_floor_6 : decode cX4_floor 6 = .ok (.lload_n 2, 1) := by decide +kernel
theorem dX4_floor_7 : decode cX4_floor 7 = .ok (.lrem, 1) := by decide +kernel
theorem dX4_floor_8 : decode cX4_floor 8 = .ok (.lconst 0, 1) := by decide +kernel
theorem dX4_floor_9 : decode cX4_floor 9 = .ok (.lcmp, 1) := by decide +kernel
theorem dX4_floor_10 : decode cX4_floor 10 = .ok (.ifCond .ge 10, 3) := by decide +kernel
theorem dX4_floor_13 : decode cX4_floor 13 = .ok (.lload 4, 2) := by decide +kernel
theorem dX4_floor_15 : decode cX4_floor 15 = .ok (.lconst 1, 1) := by decide +kernel
theorem dX4_floor_16 : decode cX4_floor 16 = .ok (.lsub, 1) := by decide +kernel
theorem dX4_floor_17 : decode cX4_floor 17 = .ok (.goto 5, 3) := by decide +kernel
theorem dX4_floor_20 : decode cX4_floor 20 = .ok (.lload 4, 2) := by decide +kernel
theorem dX4_floor_22 : decode cX4_floor 22 = .ok (.lreturn, 1) := by decide +kernel
theorem dX4_rounded_0 : decode cX4_rounded 0 = .ok (.ldc2_w 87, 3) := by decide +kernel
theorem dX4_rounded_3 : decode cX4_rounded 3 = .ok (.lload_n 0, 1) := by decide +kernel
theorem dX4_rounded_4 : decode cX4_rounded 4 = .ok (.lmul, 1) := by decide +kernel
theorem dX4_rounded_5 : decode cX4_rounded 5 = .ok (.lload_n 2, 1) := by decide +kernel
theorem dX4_rounded_6 : decode cX4_rounded 6 = .ok (.ladd, 1) := by decide +kernel
theorem dX4_rounded_7 : decode cX4_rounded 7 = .ok (.ldc2_w 87, 3) := by decide +kernel
theorem dX4_rounded_10 : decode cX4_rounded 10 = .ok (.lload_n 2, 1) := by decide +kernel
theorem dX4_rounded_11 : decode cX4_rounded 11 = .ok (.lmul, 1) := by decide +kernel
theorem dX4_rounded_12 : decode cX4_rounded 12 = .ok (.invokestatic 99, 3) := by decide +kernel
theorem dX4_rounded_15 : decode cX4_rounded 15 = .ok (.lreturn, 1) := by decide +kernel
theorem dX4_wayX_0 : decode cX4_wayX 0 = .ok (.aload_n 0, 1) := by decide +kernel
theorem dX4_wayX_1 : decode cX4_wayX 1 = .ok (.getfield 103, 3) := by decide +kernel
theorem dX4_wayX_4 : decode cX4_wayX 4 = .ok (.bipush 8, 2) := by decide +kernel
theorem dX4_wayX_6 : decode cX4_wayX 6 = .ok (.if_icmp .gt 16, 3) := by decide +kernel
theorem dX4_wayX_9 : decode cX4_wayX 9 = .ok (.aload_n 0, 1) := by decide +kernel
theorem dX4_wayX_10 : decode cX4_wayX 10 = .ok (.getfield 39, 3) := by decide +kernel
theorem dX4_wayX_13 : decode cX4_wayX 13 = .ok (.aload_n 0, 1) := by decide +kernel
theorem dX4_wayX_14 : decode cX4_wayX 14 = .ok (.getfield 103, 3) := by decide +kernel
theorem dX4_wayX_17 : decode cX4_wayX 17 = .ok (.iaload, 1) := by decide +kernel
theorem dX4_wayX_18 : decode cX4_wayX 18 = .ok (.i2l, 1) := by decide +kernel
theorem dX4_wayX_19 : decode cX4_wayX 19 = .ok (.goto 17, 3) := by decide +kernel
theorem dX4_wayX_22 : decode cX4_wayX 22 = .ok (.aload_n 0, 1) := by decide +kernel
theorem dX4_wayX_23 : decode cX4_wayX 23 = .ok (.getfield 39, 3) := by decide +kernel
theorem dX4_wayX_26 : decode cX4_wayX 26 = .ok (.bipush 16, 2) := by decide +kernel
theorem dX4_wayX_28 : decode cX4_wayX 28 = .ok (.aload_n 0, 1) := by decide +kernel
theorem dX4_wayX_29 : decode cX4_wayX 29 = .ok (.getfield 103, 3) := by decide +kernel
theorem dX4_wayX_32 : decode cX4_wayX 32 = .ok (.isub, 1) := by decide +kernel
theorem dX4_wayX_33 : decode cX4_wayX 33 = .ok (.iaload, 1) := by decide +kernel
theorem dX4_wayX_34 : decode cX4_wayX 34 = .ok (.ineg, 1) := by decide +kernel
theorem dX4_wayX_35 : decode cX4_wayX 35 = .ok (.i2l, 1) := by decide +kernel
theorem dX4_wayX_36 : decode cX4_wayX 36 = .ok (.lreturn, 1) := by decide +kernel
theorem dX4_wayY_0 : decode cX4_wayY 0 = .ok (.aload_n 0, 1) := by decide +kernel
theorem dX4_wayY_1 : decode cX4_wayY 1 = .ok (.getfield 103, 3) := by decide +kernel
theorem dX4_wayY_4 : decode cX4_wayY 4 = .ok (.bipush 8, 2) := by decide +kernel
theorem dX4_wayY_6 : decode cX4_wayY 6 = .ok (.if_icmp .gt 19, 3) := by decide +kernel
theorem dX4_wayY_9 : decode cX4_wayY 9 = .ok (.aload_n 0, 1) := by decide +kernel
theorem dX4_wayY_10 : decode cX4_wayY 10 = .ok (.getfield 39, 3) := by decide +kernel
theorem dX4_wayY_13 : decode cX4_wayY 13 = .ok (.bipush 8, 2) := by decide +kernel
theorem dX4_wayY_15 : decode cX4_wayY 15 = .ok (.aload_n 0, 1) := by decide +kernel
theorem dX4_wayY_16 : decode cX4_wayY 16 = .ok (.getfield 103, 3) := by decide +kernel
theorem dX4_wayY_19 : decode cX4_wayY 19 = .ok (.isub, 1) := by decide +kernel
theorem dX4_wayY_20 : decode cX4_wayY 20 = .ok (.iaload, 1) := by decide +kernel
theorem dX4_wayY_21 : decode cX4_wayY 21 = .ok (.i2l, 1) := by decide +kernel
theorem dX4_wayY_22 : decode cX4_wayY 22 = .ok (.goto 16, 3) := by decide +kernel
theorem dX4_wayY_25 : decode cX4_wayY 25 = .ok (.aload_n 0, 1) := by decide +kernel
theorem dX4_wayY_26 : decode cX4_wayY 26 = .ok (.getfield 39, 3) := by decide +kernel
theorem dX4_wayY_29 : decode cX4_wayY 29 = .ok (.aload_n 0, 1) := by decide +kernel
theorem dX4_wayY_30 : decode cX4_wayY 30 = .ok (.getfield 103, 3) := by decide +kernel
theorem dX4_wayY_33 : decode cX4_wayY 33 = .ok (.bipush 8, 2) := by decide +kernel
theorem dX4_wayY_35 : decode cX4_wayY 35 = .ok (.isub, 1) := by decide +kernel
theorem dX4_wayY_36 : decode cX4_wayY 36 = .ok (.iaload, 1) := by decide +kernel
theorem dX4_wayY_37 : decode cX4_wayY 37 = .ok (.i2l, 1) := by decide +kernel
theorem dX4_wayY_38 : decode cX4_wayY 38 = .ok (.lreturn, 1) := by decide +kernel
theorem dX4_isPlaneStuck_0 : decode cX4_isPlaneStuck 0 = .ok (.iload_n 1, 1) := by decide +kernel
theorem dX4_isPlaneStuck_1 : decode cX4_isPlaneStuck 1 = .ok (.iconst 1, 1) := by decide +kernel
theorem dX4_isPlaneStuck_2 : decode cX4_isPlaneStuck 2 = .ok (.if_icmp .le 20, 3) := by decide +kernel
theorem dX4_isPlaneStuck_5 : decode cX4_isPlaneStuck 5 = .ok (.aload_n 0, 1) := by decide +kernel
theorem dX4_isPlaneStuck_6 : decode cX4_isPlaneStuck 6 = .ok (.getfield 49, 3) := by decide +kernel
theorem dX4_isPlaneStuck_9 : decode cX4_isPlaneStuck 9 = .ok (.iload_n 1, 1) := by decide +kernel
theorem dX4_isPlaneStuck_10 : decode cX4_isPlaneStuck 10 = .ok (.iconst 2, 1) := by decide +kernel
theorem dX4_isPlaneStuck_11 : decode cX4_isPlaneStuck 11 = .ok (.idiv, 1) := by decide +kernel
theorem dX4_isPlaneStuck_12 : decode cX4_isPlaneStuck 12 = .ok (.iconst 1, 1) := by decide +kernel
theorem dX4_isPlaneStuck_13 : decode cX4_isPlaneStuck 13 = .ok (.isub, 1) := by decide +kernel
theorem dX4_isPlaneStuck_14 : decode cX4_isPlaneStuck 14 = .ok (.baload, 1) := by decide +kernel
theorem dX4_isPlaneStuck_15 : decode cX4_isPlaneStuck 15 = .ok (.ifCond .eq 7, 3) := by decide +kernel
theorem dX4_isPlaneStuck_18 : decode cX4_isPlaneStuck 18 = .ok (.iconst 1, 1) := by decide +kernel
theorem dX4_isPlaneStuck_19 : decode cX4_isPlaneStuck 19 = .ok (.goto 4, 3) := by decide +kernel
theorem dX4_isPlaneStuck_22 : decode cX4_isPlaneStuck 22 = .ok (.iconst 0, 1) := by decide +kernel
theorem dX4_isPlaneStuck_23 : decode cX4_isPlaneStuck 23 = .ok (.ireturn, 1) := by decide +kernel
theorem dX4_begin_0 : decode cX4_begin 0 = .ok (.iload_n 1, 1) := by decide +kernel
theorem dX4_begin_1 : decode cX4_begin 1 = .ok (.iconst 2, 1) := by decide +kernel
theorem dX4_begin_2 : decode cX4_begin 2 = .ok (.if_icmp .ge 16, 3) := by decide +kernel
theorem dX4_begin_5 : decode cX4_begin 5 = .ok (.aload_n 0, 1) := by decide +kernel
theorem dX4_begin_6 : decode cX4_begin 6 = .ok (.lconst 0, 1) := by decide +kernel
theorem dX4_begin_7 : decode cX4_begin 7 = .ok (.putfield 106, 3) := by decide +kernel
theorem dX4_begin_10 : decode cX4_begin 10 = .ok (.aload_n 0, 1) := by decide +kernel
theorem dX4_begin_11 : decode cX4_begin 11 = .ok (.lconst 0, 1) := by decide +kernel
theorem dX4_begin_12 : decode cX4_begin 12 = .ok (.putfield 110, 3) := by decide +kernel
theorem dX4_begin_15 : decode cX4_begin 15 = .ok (.goto 23, 3) := by decide +kernel
theorem dX4_begin_18 : decode cX4_begin 18 = .ok (.aload_n 0, 1) := by decide +kernel
theorem dX4_begin_19 : decode cX4_begin 19 = .ok (.aload_n 0, 1) := by decide +kernel
theorem dX4_begin_20 : decode cX4_begin 20 = .ok (.getfield 20, 3) := by decide +kernel
theorem dX4_begin_23 : decode cX4_begin 23 = .ok (.iload_n 1, 1) := by decide +kernel
theorem dX4_begin_24 : decode cX4_begin 24 = .ok (.iconst 2, 1) := by decide +kernel
theorem dX4_begin_25 : decode cX4_begin 25 = .ok (.isub, 1) := by decide +kernel
theorem dX4_begin_26 : decode cX4_begin 26 = .ok (.iaload, 1) := by decide +kernel
theorem dX4_begin_27 : decode cX4_begin 27 = .ok (.aload_n 0, 1) := by decide +kernel
theorem dX4_begin_28 : decode cX4_begin 28 = .ok (.getfield 23, 3) := by decide +kernel
theorem dX4_begin_31 : decode cX4_begin 31 = .ok (.iload_n 1, 1) := by decide +kernel
theorem dX4_begin_32 : decode cX4_begin 32 = .ok (.iconst 2, 1) := by decide +kernel
theorem dX4_begin_33 : decode cX4_begin 33 = .ok (.isub, 1) := by decide +kernel
theorem dX4_begin_34 : decode cX4_begin 34 = .ok (.iaload, 1) := by decide +kernel
theorem dX4_begin_35 : decode cX4_begin 35 = .ok (.invokevirtual 113, 3) := by decide +kernel
theorem dX4_begin_38 : decode cX4_begin 38 = .ok (.return_, 1) := by decide +kernel
theorem dX4_show_0 : decode cX4_show 0 = .ok (.iconst 0, 1) := by decide +kernel
theorem dX4_show_1 : decode cX4_show 1 = .ok (.istore_n 3, 1) := by decide +kernel
theorem dX4_show_2 : decode cX4_show 2 = .ok (.iload_n 1, 1) := by decide +kernel
theorem dX4_show_3 : decode cX4_show 3 = .ok (.istore 4, 2) := by decide +kernel
theorem dX4_show_5 : decode cX4_show 5 = .ok (.iload 4, 2) := by decide +kernel
theorem dX4_show_7 : decode cX4_show 7 = .ok (.iconst 1, 1) := by decide +kernel
theorem dX4_show_8 : decode cX4_show 8 = .ok (.if_icmp .le 28, 3) := by decide +kernel
theorem dX4_show_11 : decode cX4_show 11 = .ok (.aload_n 0, 1) := by decide +kernel
theorem dX4_show_12 : decode cX4_show 12 = .ok (.getfield 52, 3) := by decide +kernel
theorem dX4_show_15 : decode cX4_show 15 = .ok (.iload_n 3, 1) := by decide +kernel
theorem dX4_show_16 : decode cX4_show 16 = .ok (.iload 4, 2) := by decide +kernel
