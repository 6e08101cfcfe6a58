theorem dX0_init_0 : decode cX0_init 0 = .ok (.aload_n 0, 1) := by decide +kernel
theorem dX0_init_1 : decode cX0_init 1 = .ok (.invokespecial 3, 3) := by decide +kernel
theorem dX0_init_4 : decode cX0_init 4 = .ok (.aload_n 0, 1) := by decide +kernel
theorem dX0_init_5 : decode cX0_init 5 = .ok (.new 9, 3) := by decide +kernel
theorem dX0_init_8 : decode cX0_init 8 = .ok (.dup, 1) := by decide +kernel
theorem dX0_init_9 : decode cX0_init 9 = .ok (.invokespecial 11, 3) := by decide +kernel
theorem dX0_init_12 : decode cX0_init 12 = .ok (.putfield 12, 3) := by decide +kernel
theorem dX0_init_15 : decode cX0_init 15 = .ok (.aload_n 0, 1) := by decide +kernel
theorem dX0_init_16 : decode cX0_init 16 = .ok (.new 9, 3) := by decide +kernel
theorem dX0_init_19 : decode cX0_init 19 = .ok (.dup, 1) := by decide +kernel
theorem dX0_init_20 : decode cX0_init 20 = .ok (.invokespecial 11, 3) := by decide +kernel
theorem dX0_init_23 : decode cX0_init 23 = .ok (.putfield 18, 3) := by decide +kernel
theorem dX0_init_26 : decode cX0_init 26 = .ok (.aload_n 0, 1) := by decide +kernel
theorem dX0_init_27 : decode cX0_init 27 = .ok (.new 9, 3) := by decide +kernel
theorem dX0_init_30 : decode cX0_init 30 = .ok (.dup, 1) := by decide +kernel
theorem dX0_init_31 : decode cX0_init 31 = .ok (.invokespecial 11, 3) := by decide +kernel
theorem dX0_init_34 : decode cX0_init 34 = .ok (.putfield 21, 3) := by decide +kernel
theorem dX0_init_37 : decode cX0_init 37 = .ok (.aload_n 0, 1) := by decide +kernel
theorem dX0_init_38 : decode cX0_init 38 = .ok (.new 24, 3) := by decide +kernel
theorem dX0_init_41 : decode cX0_init 41 = .ok (.dup, 1) := by decide +kernel
theorem dX0_init_42 : decode cX0_init 42 = .ok (.aload_n 0, 1) := by decide +kernel
theorem dX0_init_43 : decode cX0_init 43 = .ok (.getfield 12, 3) := by decide +kernel
theorem dX0_init_46 : decode cX0_init 46 = .ok (.aload_n 0, 1) := by decide +kernel
theorem dX0_init_47 : decode cX0_init 47 = .ok (.getfield 21, 3) := by decide +kernel
theorem dX0_init_50 : decode cX0_init 50 = .ok (.aload_n 0, 1) := by decide +kernel
theorem dX0_init_51 : decode cX0_init 51 = .ok (.getfield 21, 3) := by decide +kernel
theorem dX0_init_54 : decode cX0_init 54 = .ok (.iconst 0, 1) := by decide +kernel
theorem dX0_init_55 : decode cX0_init 55 = .ok (.invokespecial 26, 3) := by decide +kernel
theorem dX0_init_58 : decode cX0_init 58 = .ok (.putfield 29, 3) := by decide +kernel
theorem dX0_init_61 : decode cX0_init 61 = .ok (.aload_n 0, 1) := by decide +kernel
theorem dX0_init_62 : decode cX0_init 62 = .ok (.new 24, 3) := by decide +kernel
theorem dX0_init_65 : decode cX0_init 65 = .ok (.dup, 1) := by decide +kernel
theorem dX0_init_66 : decode cX0_init 66 = .ok (.aload_n 0, 1) := by decide +kernel
theorem dX0_init_67 : decode cX0_init 67 = .ok (.getfield 18, 3) := by decide +kernel
theorem dX0_init_70 : decode cX0_init 70 = .ok (.aload_n 0, 1) := by decide +kernel
theorem dX0_init_71 : decode cX0_init 71 = .ok (.getfield 21, 3) := by decide +kernel
theorem dX0_init_74 : decode cX0_init 74 = .ok (.aload_n 0, 1) := by decide +kernel
theorem dX0_init_75 : decode cX0_init 75 = .ok (.getfield 21, 3) := by decide +kernel
theorem dX0_init_78 : decode cX0_init 78 = .ok (.iconst 0, 1) := by decide +kernel
theorem dX0_init_79 : decode cX0_init 79 = .ok (.invokespecial 26, 3) := by decide +kernel
theorem dX0_init_82 : decode cX0_init 82 = .ok (.putfield 33, 3) := by decide +kernel
theorem dX0_init_85 : decode cX0_init 85 = .ok (.return_, 1) := by decide +kernel
theorem dX0_hang_0 : decode cX0_hang 0 = .ok (.aload_n 0, 1) := by decide +kernel
theorem dX0_hang_1 : decode cX0_hang 1 = .ok (.iload_n 1, 1) := by decide +kernel
theorem dX0_hang_2 : decode cX0_hang 2 = .ok (.putfield 36, 3) := by decide +kernel
theorem dX0_hang_5 : decode cX0_hang 5 = .ok (.aload_n 0, 1) := by decide +kernel
theorem dX0_hang_6 : decode cX0_hang 6 = .ok (.iload_n 2, 1) := by decide +kernel
theorem dX0_hang_7 : decode cX0_hang 7 = .ok (.putfield 40, 3) := by decide +kernel
theorem dX0_hang_10 : decode cX0_hang 10 = .ok (.aload_n 0, 1) := by decide +kernel
theorem dX0_hang_11 : decode cX0_hang 11 = .ok (.iload_n 3, 1) := by decide +kernel
theorem dX0_hang_12 : decode cX0_hang 12 = .ok (.putfield 43, 3) := by decide +kernel
theorem dX0_hang_15 : decode cX0_hang 15 = .ok (.aload_n 0, 1) := by decide +kernel
theorem dX0_hang_16 : decode cX0_hang 16 = .ok (.iload 4, 2) := by decide +kernel
theorem dX0_hang_18 : decode cX0_hang 18 = .ok (.putfield 46, 3) := by decide +kernel
theorem dX0_hang_21 : decode cX0_hang 21 = .ok (.aload_n 0, 1) := by decide +kernel
theorem dX0_hang_22 : decode cX0_hang 22 = .ok (.iload 5, 2) := by decide +kernel
theorem dX0_hang_24 : decode cX0_hang 24 = .ok (.putfield 49, 3) := by decide +kernel
theorem dX0_hang_27 : decode cX0_hang 27 = .ok (.return_, 1) := by decide +kernel
theorem dX0_cut_0 : decode cX0_cut 0 = .ok (.aload_n 0, 1) := by decide +kernel
theorem dX0_cut_1 : decode cX0_cut 1 = .ok (.getfield 29, 3) := by decide +kernel
theorem dX0_cut_4 : decode cX0_cut 4 = .ok (.aload_n 0, 1) := by decide +kernel
theorem dX0_cut_5 : decode cX0_cut 5 = .ok (.getfield 36, 3) := by decide +kernel
theorem dX0_cut_8 : decode cX0_cut 8 = .ok (.iconst 1, 1) := by decide +kernel
theorem dX0_cut_9 : decode cX0_cut 9 = .ok (.if_icmp .ne 10, 3) := by decide +kernel
theorem dX0_cut_12 : decode cX0_cut 12 = .ok (.aload_n 0, 1) := by decide +kernel
theorem dX0_cut_13 : decode cX0_cut 13 = .ok (.getfield 49, 3) := by decide +kernel
theorem dX0_cut_16 : decode cX0_cut 16 = .ok (.goto 4, 3) := by decide +kernel
theorem dX0_cut_19 : decode cX0_cut 19 = .ok (.iload_n 1, 1) := by decide +kernel
theorem dX0_cut_20 : decode cX0_cut 20 = .ok (.putfield 52, 3) := by decide +kernel
theorem dX0_cut_23 : decode cX0_cut 23 = .ok (.aload_n 0, 1) := by decide +kernel
theorem dX0_cut_24 : decode cX0_cut 24 = .ok (.getfield 33, 3) := by decide +kernel
theorem dX0_cut_27 : decode cX0_cut 27 = .ok (.aload_n 0, 1) := by decide +kernel
theorem dX0_cut_28 : decode cX0_cut 28 = .ok (.getfield 36, 3) := by decide +kernel
theorem dX0_cut_31 : decode cX0_cut 31 = .ok (.iconst 1, 1) := by decide +kernel
theorem dX0_cut_32 : decode cX0_cut 32 = .ok (.if_icmp .ne 10, 3) := by decide +kernel
theorem dX0_cut_35 : decode cX0_cut 35 = .ok (.aload_n 0, 1) := by decide +kernel
theorem dX0_cut_36 : decode cX0_cut 36 = .ok (.getfield 43, 3) := by decide +kernel
theorem dX0_cut_39 : decode cX0_cut 39 = .ok (.goto 4, 3) := by decide +kernel
theorem dX0_cut_42 : decode cX0_cut 42 = .ok (.iload_n 2, 1) := by decide +kernel
theorem dX0_cut_43 : decode cX0_cut 43 = .ok (.putfield 52, 3) := by decide +kernel
theorem dX0_cut_46 : decode cX0_cut 46 = .ok (.return_, 1) := by decide +kernel
theorem dX0_likenTo_0 : decode cX0_likenTo 0 = .ok (.aload_n 0, 1) := by decide +kernel
theorem dX0_likenTo_1 : decode cX0_likenTo 1 = .ok (.aload_n 1, 1) := by decide +kernel
theorem dX0_likenTo_2 : decode cX0_likenTo 2 = .ok (.getfield 36, 3) := by decide +kernel
theorem dX0_likenTo_5 : decode cX0_likenTo 5 = .ok (.aload_n 1, 1) := by decide +kernel
theorem dX0_likenTo_6 : decode cX0_likenTo 6 = .ok (.getfield 40, 3) := by decide +kernel
theorem dX0_likenTo_9 : decode cX0_likenTo 9 = .ok (.aload_n 1, 1) := by decide +kernel
theorem dX0_likenTo_10 : decode cX0_likenTo 10 = .ok (.getfield 43, 3) := by decide +kernel
theorem dX0_likenTo_13 : decode cX0_likenTo 13 = .ok (.aload_n 1, 1) := by decide +kernel
theorem dX0_likenTo_14 : decode cX0_likenTo 14 = .ok (.getfield 46, 3) := by decide +kernel
theorem dX0_likenTo_17 : decode cX0_likenTo 17 = .ok (.aload_n 1, 1) := by decide +kernel
theorem dX0_likenTo_18 : decode cX0_likenTo 18 = .ok (.getfield 49, 3) := by decide +kernel
theorem dX0_likenTo_21 : decode cX0_likenTo 21 = .ok (.invokevirtual 55, 3) := by decide +kernel
theorem dX0_likenTo_24 : decode cX0_likenTo 24 = .ok (.aload_n 0, 1) := by decide +kernel
theorem dX0_likenTo_25 : decode cX0_likenTo 25 = .ok (.getfield 29, 3) := by decide +kernel
theorem dX0_likenTo_28 : decode cX0_likenTo 28 = .ok (.aload_n 1, 1) := by decide +kernel
theorem dX0_likenTo_29 : decode cX0_likenTo 29 = .ok (.getfield 29, 3) := by decide +kernel
theorem dX0_likenTo_32 : decode cX0_likenTo 32 = .ok (.getfield 52, 3) := by decide +kernel
theorem dX0_likenTo_35 : decode cX0_likenTo 35 = .ok (.putfield 52, 3) := by decide +kernel
theorem dX0_likenTo_38 : decode cX0_likenTo 38 = .ok (.aload_n 0, 1) := by decide +kernel
theorem dX0_likenTo_39 : decode cX0_likenTo 39 = .ok (.getfield 33, 3) := by decide +kernel
theorem dX0_likenTo_42 : decode cX0_likenTo 42 = .ok (.aload_n 1, 1) := by decide +kernel
theorem dX0_likenTo_43 : decode cX0_likenTo 43 = .ok (.getfield 33, 3) := by decide +kernel
theorem dX0_likenTo_46 : decode cX0_likenTo 46 = .ok (.getfield 52, 3) := by decide +kernel
theorem dX0_likenTo_49 : decode cX0_likenTo 49 = .ok (.putfield 52, 3) := by decide +kernel
theorem dX0_likenTo_52 : decode cX0_likenTo 52 = .ok (.aload_n 0, 1) := by decide +kernel
theorem dX0_likenTo_53 : decode cX0_likenTo 53 = .ok (.aload_n 1, 1) := by decide +kernel
theorem dX0_likenTo_54 : decode cX0_likenTo 54 = .ok (.getfield 59, 3) := by decide +kernel
theorem dX0_likenTo_57 : decode cX0_likenTo 57 = .ok (.putfield 59, 3) := by decide +kernel
theorem dX0_likenTo_60 : decode cX0_likenTo 60 = .ok (.return_, 1) := by decide +kernel
theorem dX0_planeOf_0 : decode cX0_planeOf 0 = .ok (.iload_n 1, 1) := by decide +kernel
theorem dX0_planeOf_1 : decode cX0_planeOf 1 = .ok (.ifCond .eq 10, 3) := by decide +kernel
theorem dX0_planeOf_4 : decode cX0_planeOf 4 = .ok (.aload_n 0, 1) := by decide +kernel
theorem dX0_planeOf_5 : decode cX0_planeOf 5 = .ok (.getfield 40, 3) := by decide +kernel
theorem dX0_planeOf_8 : decode cX0_planeOf 8 = .ok (.goto 7, 3) := by decide +kernel
theorem dX0_planeOf_11 : decode cX0_planeOf 11 = .ok (.aload_n 0, 1) := by decide +kernel
theorem dX0_planeOf_12 : decode cX0_planeOf 12 = .ok (.getfield 46, 3) := by decide +kernel
theorem dX0_planeOf_15 : decode cX0_planeOf 15 = .ok (.ireturn, 1) := by decide +kernel
theorem dX0_distanceOf_0 : decode cX0_distanceOf 0 = .ok (.iload_n 1, 1) := by decide +kernel
theorem dX0_distanceOf_1 : decode cX0_distanceOf 1 = .ok (.ifCond .eq 10, 3) := by decide +kernel
theorem dX0_distanceOf_4 : decode cX0_distanceOf 4 = .ok (.aload_n 0, 1) := by decide +kernel
theorem dX0_distanceOf_5 : decode cX0_distanceOf 5 = .ok (.getfield 43, 3) := by decide +kernel
theorem dX0_distanceOf_8 : decode cX0_distanceOf 8 = .ok (.goto 7, 3) := by decide +kernel
theorem dX0_distanceOf_11 : decode cX0_distanceOf 11 = .ok (.aload_n 0, 1) := by decide +kernel
theorem dX0_distanceOf_12 : decode cX0_distanceOf 12 = .ok (.getfield 49, 3) := by decide +kernel
theorem dX0_distanceOf_15 : decode cX0_distanceOf 15 = .ok (.ireturn, 1) := by decide +kernel
theorem dX0_leastDistance_0 : decode cX0_leastDistance 0 = .ok (.aload_n 0, 1) := by decide +kernel
theorem dX0_leastDistance_1 : decode cX0_leastDistance 1 = .ok (.getfield 36, 3) := by decide +kernel
theorem dX0_leastDistance_4 : decode cX0_leastDistance 4 = .ok (.iconst 1, 1) := by decide +kernel
theorem dX0_leastDistance_5 : decode cX0_leastDistance 5 = .ok (.if_icmp .ne 7, 3) := by decide +kernel
theorem dX0_leastDistance_8 : decode cX0_leastDistance 8 = .ok (.iconst 1, 1) := by decide +kernel
theorem dX0_leastDistance_9 : decode cX0_leastDistance 9 = .ok (.goto 4, 3) := by decide +kernel
theorem dX0_leastDistance_12 : decode cX0_leastDistance 12 = .ok (.iconst 0, 1) := by decide +kernel
theorem dX0_leastDistance_13 : decode cX0_leastDistance 13 = .ok (.ireturn, 1) := by decide +kernel
theorem dX0_rehang_0 : decode cX0_rehang 0 = .ok (.iload_n 1, 1) := by decide +kernel
theorem dX0_rehang_1 : decode cX0_rehang 1 = .ok (.ifCond .eq 11, 3) := by decide +kernel
theorem dX0_rehang_4 : decode cX0_rehang 4 = .ok (.aload_n 0, 1) := by decide +kernel
theorem dX0_rehang_5 : decode cX0_rehang 5 = .ok (.iload_n 2, 1) := by decide +kernel
theorem dX0_rehang_6 : decode cX0_rehang 6 = .ok (.putfield 43, 3) := by decide +kernel
theorem dX0_rehang_9 : decode cX0_rehang 9 = .ok (.goto 8, 3) := by decide +kernel
theorem dX0_rehang_12 : decode cX0_rehang 12 = .ok (.aload_n 0, 1) := by decide +kernel
theorem dX0_rehang_13 : decode cX0_rehang 13 = .ok (.iload_n 2, 1) := by decide +kernel
theorem dX0_rehang_14 : decode cX0_rehang 14 = .ok (.putfield 49, 3) := by decide +kernel
theorem dX0_rehang_17 : decode cX0_rehang 17 = .ok (.aload_n 0, 1) := by decide +kernel
theorem dX0_rehang_18 : decode cX0_rehang 18 = .ok (.aload_n 0, 1) := by decide +kernel
theorem dX0_rehang_19 : decode cX0_rehang 19 = .ok (.getfield 29, 3) := by decide +kernel
theorem dX0_rehang_22 : decode cX0_rehang 22 = .ok (.getfield 52, 3) := by decide +kernel
theorem dX0_rehang_25 : decode cX0_rehang 25 = .ok (.aload_n 0, 1) := by decide +kernel
theorem dX0_rehang_26 : decode cX0_rehang 26 = .ok (.getfield 33, 3) := by decide +kernel
theorem dX0_rehang_29 : decode cX0_rehang 29 = .ok (.getfield 52, 3) := by decide +kernel
theorem dX0_rehang_32 : decode cX0_rehang 32 = .ok (.invokevirtual 63, 3) := by decide +kernel
theorem dX0_rehang_35 : decode cX0_rehang 35 = .ok (.return_, 1) := by decide +kernel
theorem dX0_fold_0 : decode cX0_fold 0 = .ok (.aload_n 0, 1) := by decide +kernel
theorem dX0_fold_1 : decode cX0_fold 1 = .ok (.getfield 12, 3) := by decide +kernel
theorem dX0_fold_4 : decode cX0_fold 4 = .ok (.getfield 67, 3) := by decide +kernel
theorem dX0_fold_7 : decode cX0_fold 7 = .ok (.iload_n 1, 1) := by decide +kernel
theorem dX0_fold_8 : decode cX0_fold 8 = .ok (.baload, 1) := by decide +kernel
theorem dX0_fold_9 : decode cX0_fold 9 = .ok (.ifCond .ne 15, 3) := by decide +kernel
theorem dX0_fold_12 : decode cX0_fold 12 = .ok (.aload_n 0, 1) := by decide +kernel
theorem dX0_fold_13 : decode cX0_fold 13 = .ok (.getfield 18, 3) := by decide +kernel
theorem dX0_fold_16 : decode cX0_fold 16 = .ok (.getfield 67, 3) := by decide +kernel
theorem dX0_fold_19 : decode cX0_fold 19 = .ok (.iload_n 1, 1) := by decide +kernel
theorem dX0_fold_20 : decode cX0_fold 20 = .ok (.baload, 1) := by decide +kernel
theorem dX0_fold_21 : decode cX0_fold 21 = .ok (.ifCond .eq 12, 3) := by decide +kernel
theorem dX0_fold_24 : decode cX0_fold 24 = .ok (.aload_n 0, 1) := by decide +kernel
theorem dX0_fold_25 : decode cX0_fold 25 = .ok (.getfield 21, 3) := by decide +kernel
theorem dX0_fold_28 : decode cX0_fold 28 = .ok (.iload_n 1, 1) := by decide +kernel
theorem dX0_fold_29 : decode cX0_fold 29 = .ok (.invokevirtual 71, 3) := by decide +kernel
theorem dX0_fold_32 : decode cX0_fold 32 = .ok (.return_, 1) := by decide +kernel
theorem dX0_fold_33 : decode cX0_fold 33 = .ok (.aload_n 0, 1) := by decide +kernel
theorem dX0_fold_34 : decode cX0_fold 34 = .ok (.getfield 29, 3) := by decide +kernel
theorem dX0_fold_37 : decode cX0_fold 37 = .ok (.getfield 52, 3) := by decide +kernel
theorem dX0_fold_40 : decode cX0_fold 40 = .ok (.i2l, 1) := by decide +kernel
theorem dX0_fold_41 : decode cX0_fold 41 = .ok (.lstore_n 2, 1) := by decide +kernel
theorem dX0_fold_42 : decode cX0_fold 42 = .ok (.aload_n 0, 1) := by decide +kernel
theorem dX0_fold_43 : decode cX0_fold 43 = .ok (.getfield 33, 3) := by decide +kernel
theorem dX0_fold_46 : decode cX0_fold 46 = .ok (.getfield 52, 3) := by decide +kernel
theorem dX0_fold_49 : decode cX0_fold 49 = .ok (.i2l, 1) := by decide +kernel
theorem dX0_fold_50 : decode cX0_fold 50 = .ok (.lstore 4, 2) := by decide +kernel
theorem dX0_fold_52 : decode cX0_fold 52 = .ok (.aload_n 0, 1) := by decide +kernel
theorem dX0_fold_53 : decode cX0_fold 53 = .ok (.getfield 12, 3) := by decide +kernel
theorem dX0_fold_56 : decode cX0_fold 56 = .ok (.aload_n 0, 1) := by decide +kernel
theorem dX0_fold_57 : decode cX0_fold 57 = .ok (.getfield 18, 3) := by decide +kernel
theorem dX0_fold_60 : decode cX0_fold 60 = .ok (.iload_n 1, 1) := by decide +kernel
theorem dX0_fold_61 : decode cX0_fold 61 = .ok (.invokevirtual 75, 3) := by decide +kernel
theorem dX0_fold_64 : decode cX0_fold 64 = .ok (.lstore 6, 2) := by decide +kernel
theorem dX0_fold_66 : decode cX0_fold 66 = .ok (.lload 6, 2) := by decide +kernel
theorem dX0_fold_68 : decode cX0_fold 68 = .ok (.lconst 0, 1) := by decide +kernel
theorem dX0_fold_69 : decode cX0_fold 69 = .ok (.lcmp, 1) := by decide +kernel
theorem dX0_fold_70 : decode cX0_fold 70 = .ok (.ifCond .ne 9, 3) := by decide +kernel
theorem dX0_fold_73 : decode cX0_fold 73 = .ok (.aload_n 0, 1) := by decide +kernel
theorem dX0_fold_74 : decode cX0_fold 74 = .ok (.iload_n 1, 1) := by decide +kernel
theorem dX0_fold_75 : decode cX0_fold 75 = .ok (.invokevirtual 79, 3) := by decide +kernel
theorem dX0_fold_78 : decode cX0_fold 78 = .ok (.return_, 1) := by decide +kernel
theorem dX0_fold_79 : decode cX0_fold 79 = .ok (.lload 6, 2) := by decide +kernel
theorem dX0_fold_81 : decode cX0_fold 81 = .ok (.lload_n 2, 1) := by decide +kernel
theorem dX0_fold_82 : decode cX0_fold 82 = .ok (.lload 4, 2) := by decide +kernel
theorem dX0_fold_84 : decode cX0_fold 84 = .ok (.ladd, 1) := by decide +kernel
theorem dX0_fold_85 : decode cX0_fold 85 = .ok (.lload_n 2, 1) := by decide +kernel
theorem dX0_fold_86 : decode cX0_fold 86 = .ok (.lload 4, 2) := by decide +kernel
theorem dX0_fold_88 : decode cX0_fold 88 = .ok (.ladd, 1) := by decide +kernel
theorem dX0_fold_89 : decode cX0_fold 89 = .ok (.lmul, 1) := by decide +kernel
theorem dX0_fold_90 : decode cX0_fold 90 = .ok (.lcmp, 1) := by decide +kernel
theorem dX0_fold_91 : decode cX0_fold 91 = .ok (.ifCond .le 12, 3) := by decide +kernel
theorem dX0_fold_94 : decode cX0_fold 94 = .ok (.aload_n 0, 1) := by decide +kernel
theorem dX0_fold_95 : decode cX0_fold 95 = .ok (.getfield 21, 3) := by decide +kernel
theorem dX0_fold_98 : decode cX0_fold 98 = .ok (.iload_n 1, 1) := by decide +kernel
theorem dX0_fold_99 : decode cX0_fold 99 = .ok (.invokevirtual 71, 3) := by decide +kernel
theorem dX0_fold_102 : decode cX0_fold 102 = .ok (.return_, 1) := by decide +kernel
theorem dX0_fold_103 : decode cX0_fold 103 = .ok (.lload_n 2, 1) := by decide +kernel
theorem dX0_fold_104 : decode cX0_fold 104 = .ok (.lload_n 2, 1) := by decide +kernel
theorem dX0_fold_105 : decode cX0_fold 105 = .ok (.lmul, 1) := by decide +kernel
theorem dX0_fold_106 : decode cX0_fold 106 = .ok (.lload 4, 2) := by decide +kernel
theorem dX0_fold_108 : decode cX0_fold 108 = .ok (.lload 4, 2) := by decide +kernel
theorem dX0_fold_110 : decode cX0_fold 110 = .ok (.lmul, 1) := by decide +kernel
theorem dX0_fold_111 : decode cX0_fold 111 = .ok (.lsub, 1) := by decide +kernel
theorem dX0_fold_112 : decode cX0_fold 112 = .ok (.lload 6, 2) := by decide +kernel
theorem dX0_fold_114 : decode cX0_fold 114 = .ok (.ladd, 1) := by decide +kernel
theorem dX0_fold_115 : decode cX0_fold 115 = .ok (.lstore 8, 2) := by decide +kernel
theorem dX0_fold_117 : decode cX0_fold 117 = .ok (.ldc2_w 82, 3) := by decide +kernel
theorem dX0_fold_120 : decode cX0_fold 120 = .ok (.lload_n 2, 1) := by decide +kernel
theorem dX0_fold_121 : decode cX0_fold 121 = .ok (.lmul, 1) := by decide +kernel
theorem dX0_fold_122 : decode cX0_fold 122 = .ok (.lload_n 2, 1) := by decide +kernel
theorem dX0_fold_123 : decode cX0_fold 123 = .ok (.lmul, 1) := by decide +kernel
theorem dX0_fold_124 : decode cX0_fold 124 = .ok (.lload 6, 2) := by decide +kernel
theorem dX0_fold_126 : decode cX0_fold 126 = .ok (.lmul, 1) := by decide +kernel
theorem dX0_fold_127 : decode cX0_fold 127 = .ok (.lload 8, 2) := by decide +kernel
theorem dX0_fold_129 : decode cX0_fold 129 = .ok (.lload 8, 2) := by decide +kernel
theorem dX0_fold_131 : decode cX0_fold 131 = .ok (.lmul, 1) := by decide +kernel
theorem dX0_fold_132 : decode cX0_fold 132 = .ok (.lsub, 1) := by decide +kernel
theorem dX0_fold_133 : decode cX0_fold 133 = .ok (.lstore 10, 2) := by decide +kernel
theorem dX0_fold_135 : decode cX0_fold 135 = .ok (.lload 10, 2) := by decide +kernel
theorem dX0_fold_137 : decode cX0_fold 137 = .ok (.lconst 0, 1) := by decide +kernel
theorem dX0_fold_138 : decode cX0_fold 138 = .ok (.lcmp, 1) := by decide +kernel
theorem dX0_fold_139 : decode cX0_fold 139 = .ok (.ifCond .ge 12, 3) := by decide +kernel
theorem dX0_fold_142 : decode cX0_fold 142 = .ok (.aload_n 0, 1) := by decide +kernel
theorem dX0_fold_143 : decode cX0_fold 143 = .ok (.getfield 21, 3) := by decide +kernel
theorem dX0_fold_146 : decode cX0_fold 146 = .ok (.iload_n 1, 1) := by decide +kernel
theorem dX0_fold_147 : decode cX0_fold 147 = .ok (.invokevirtual 71, 3) := by decide +kernel
theorem dX0_fold_150 : decode cX0_fold 150 = .ok (.return_, 1) := by decide +kernel
theorem dX0_fold_151 : decode cX0_fold 151 = .ok (.aload_n 0, 1) := by decide +kernel
theorem dX0_fold_152 : decode cX0_fold 152 = .ok (.getfield 59, 3) := by decide +kernel
theorem dX0_fold_155 : decode cX0_fold 155 = .ok (.ifCond .eq 11, 3) := by decide +kernel
theorem dX0_fold_158 : decode cX0_fold 158 = .ok (.lload 10, 2) := by decide +kernel
theorem dX0_fold_160 : decode cX0_fold 160 = .ok (.invokestatic 84, 3) := by decide +kernel
theorem dX0_fold_163 : decode cX0_fold 163 = .ok (.goto 9, 3) := by decide +kernel
theorem dX0_fold_166 : decode cX0_fold 166 = .ok (.lload 10, 2) := by decide +kernel
theorem dX0_fold_168 : decode cX0_fold 168 = .ok (.invokestatic 84, 3) := by decide +kernel
theorem dX0_fold_171 : decode cX0_fold 171 = .ok (.lneg, 1) := by decide +kernel
theorem dX0_fold_172 : decode cX0_fold 172 = .ok (.lstore 12, 2) := by decide +kernel
theorem dX0_fold_174 : decode cX0_fold 174 = .ok (.aload_n 0, 1) := by decide +kernel
theorem dX0_fold_175 : decode cX0_fold 175 = .ok (.getfield 18, 3) := by decide +kernel
theorem dX0_fold_178 : decode cX0_fold 178 = .ok (.getfield 88, 3) := by decide +kernel
theorem dX0_fold_181 : decode cX0_fold 181 = .ok (.iload_n 1, 1) := by decide +kernel
theorem dX0_fold_182 : decode cX0_fold 182 = .ok (.iaload, 1) := by decide +kernel
theorem dX0_fold_183 : decode cX0_fold 183 = .ok (.aload_n 0, 1) := by decide +kernel
theorem dX0_fold_184 : decode cX0_fold 184 = .ok (.getfield 12, 3) := by decide +kernel
theorem dX0_fold_187 : decode cX0_fold 187 = .ok (.getfield 88, 3) := by decide +kernel
theorem dX0_fold_190 : decode cX0_fold 190 = .ok (.iload_n 1, 1) := by decide +kernel
theorem dX0_fold_191 : decode cX0_fold 191 = .ok (.iaload, 1) := by decide +kernel
theorem dX0_fold_192 : decode cX0_fold 192 = .ok (.isub, 1) := by decide +kernel
theorem dX0_fold_193 : decode cX0_fold 193 = .ok (.i2l, 1) := by decide +kernel
theorem dX0_fold_194 : decode cX0_fold 194 = .ok (.lstore 14, 2) := by decide +kernel
theorem dX0_fold_196 : decode cX0_fold 196 = .ok (.aload_n 0, 1) := by decide +kernel
theorem dX0_fold_197 : decode cX0_fold 197 = .ok (.getfield 18, 3) := by decide +kernel
theorem dX0_fold_200 : decode cX0_fold 200 = .ok (.getfield 92, 3) := by decide +kernel
theorem dX0_fold_203 : decode cX0_fold 203 = .ok (.iload_n 1, 1) := by decide +kernel
theorem dX0_fold_204 : decode cX0_fold 204 = .ok (.iaload, 1) := by decide +kernel
theorem dX0_fold_205 : decode cX0_fold 205 = .ok (.aload_n 0, 1) := by decide +kernel
theorem dX0_fold_206 : decode cX0_fold 206 = .ok (.getfield 12, 3) := by decide +kernel
theorem dX0_fold_209 : decode cX0_fold 209 = .ok (.getfield 92, 3) := by decide +kernel
theorem dX0_fold_212 : decode cX0_fold 212 = .ok (.iload_n 1, 1) := by decide +kernel
theorem dX0_fold_213 : decode cX0_fold 213 = .ok (.iaload, 1) := by decide +kernel
theorem dX0_fold_214 : decode cX0_fold 214 = .ok (.isub, 1) := by decide +kernel
theorem dX0_fold_215 : decode cX0_fold 215 = .ok (.i2l, 1) := by decide +kernel
theorem dX0_fold_216 : decode cX0_fold 216 = .ok (.lstore 16, 2) := by decide +kernel
theorem dX0_fold_218 : decode cX0_fold 218 = .ok (.aload_n 0, 1) := by decide +kernel
theorem dX0_fold_219 : decode cX0_fold 219 = .ok (.getfield 21, 3) := by decide +kernel
theorem dX0_fold_222 : decode cX0_fold 222 = .ok (.iload_n 1, 1) := by decide +kernel
theorem dX0_fold_223 : decode cX0_fold 223 = .ok (.aload_n 0, 1) := by decide +kernel
theorem dX0_fold_224 : decode cX0_fold 224 = .ok (.getfield 12, 3) := by decide +kernel
theorem dX0_fold_227 : decode cX0_fold 227 = .ok (.getfield 88, 3) := by decide +kernel
theorem dX0_fold_230 : decode cX0_fold 230 = .ok (.iload_n 1, 1) := by decide +kernel
theorem dX0_fold_231 : decode cX0_fold 231 = .ok (.iaload, 1) := by decide +kernel
theorem dX0_fold_232 : decode cX0_fold 232 = .ok (.lload 14, 2) := by decide +kernel
theorem dX0_fold_234 : decode cX0_fold 234 = .ok (.lload 8, 2) := by decide +kernel
theorem dX0_fold_236 : decode cX0_fold 236 = .ok (.lmul, 1) := by decide +kernel
theorem dX0_fold_237 : decode cX0_fold 237 = .ok (.lload 16, 2) := by decide +kernel
theorem dX0_fold_239 : decode cX0_fold 239 = .ok (.lload 12, 2) := by decide +kernel
theorem dX0_fold_241 : decode cX0_fold 241 = .ok (.lmul, 1) := by decide +kernel
theorem dX0_fold_242 : decode cX0_fold 242 = .ok (.lsub, 1) := by decide +kernel
theorem dX0_fold_243 : decode cX0_fold 243 = .ok (.ldc2_w 95, 3) := by decide +kernel
theorem dX0_fold_246 : decode cX0_fold 246 = .ok (.lload 6, 2) := by decide +kernel
theorem dX0_fold_248 : decode cX0_fold 248 = .ok (.lmul, 1) := by decide +kernel
theorem dX0_fold_249 : decode cX0_fold 249 = .ok (.invokestatic 97, 3) := by decide +kernel
theorem dX0_fold_252 : decode cX0_fold 252 = .ok (.iadd, 1) := by decide +kernel
theorem dX0_fold_253 : decode cX0_fold 253 = .ok (.aload_n 0, 1) := by decide +kernel
theorem dX0_fold_254 : decode cX0_fold 254 = .ok (.getfield 12, 3) := by decide +kernel
theorem dX0_fold_257 : decode cX0_fold 257 = .ok (.getfield 92, 3) := by decide +kernel
theorem dX0_fold_260 : decode cX0_fold 260 = .ok (.iload_n 1, 1) := by decide +kernel
theorem dX0_fold_261 : decode cX0_fold 261 = .ok (.iaload, 1) := by decide +kernel
theorem dX0_fold_262 : decode cX0_fold 262 = .ok (.lload 16, 2) := by decide +kernel
theorem dX0_fold_264 : decode cX0_fold 264 = .ok (.lload 8, 2) := by decide +kernel
theorem dX0_fold_266 : decode cX0_fold 266 = .ok (.lmul, 1) := by decide +kernel
theorem dX0_fold_267 : decode cX0_fold 267 = .ok (.lload 14, 2) := by decide +kernel
theorem dX0_fold_269 : decode cX0_fold 269 = .ok (.lload 12, 2) := by decide +kernel
theorem dX0_fold_271 : decode cX0_fold 271 = .ok (.lmul, 1) := by decide +kernel
theorem dX0_fold_272 : decode cX0_fold 272 = .ok (.ladd, 1) := by decide +kernel
theorem dX0_fold_273 : decode cX0_fold 273 = .ok (.ldc2_w 95, 3) := by decide +kernel
theorem dX0_fold_276 : decode cX0_fold 276 = .ok (.lload 6, 2) := by decide +kernel
theorem dX0_fold_278 : decode cX0_fold 278 = .ok (.lmul, 1) := by decide +kernel
theorem dX0_fold_279 : decode cX0_fold 279 = .ok (.invokestatic 97, 3) := by decide +kernel
theorem dX0_fold_282 : decode cX0_fold 282 = .ok (.iadd, 1) := by decide +kernel
theorem dX0_fold_283 : decode cX0_fold 283 = .ok (.invokevirtual 101, 3) := by decide +kernel
theorem dX0_fold_286 : decode cX0_fold 286 = .ok (.return_, 1) := by decide +kernel
theorem dX0_foldOnOnePlace_0 : decode cX0_foldOnOnePlace 0 = .ok (.aload_n 0, 1) := by decide +kernel
theorem dX0_foldOnOnePlace_1 : decode cX0_foldOnOnePlace 1 = .ok (.getfield 29, 3) := by decide +kernel
theorem dX0_foldOnOnePlace_4 : decode cX0_foldOnOnePlace 4 = .ok (.getfield 52, 3) := by decide +kernel
theorem dX0_foldOnOnePlace_7 : decode cX0_foldOnOnePlace 7 = .ok (.aload_n 0, 1) := by decide +kernel
theorem dX0_foldOnOnePlace_8 : decode cX0_foldOnOnePlace 8 = .ok (.getfield 33, 3) := by decide +kernel
theorem dX0_foldOnOnePlace_11 : decode cX0_foldOnOnePlace 11 = .ok (.getfield 52, 3) := by decide +kernel
theorem dX0_foldOnOnePlace_14 : decode cX0_foldOnOnePlace 14 = .ok (.if_icmp .ne 40, 3) := by decide +kernel
theorem dX0_foldOnOnePlace_17 : decode cX0_foldOnOnePlace 17 = .ok (.aload_n 0, 1) := by decide +kernel
theorem dX0_foldOnOnePlace_18 : decode cX0_foldOnOnePlace 18 = .ok (.getfield 21, 3) := by decide +kernel
theorem dX0_foldOnOnePlace_21 : decode cX0_foldOnOnePlace 21 = .ok (.iload_n 1, 1) := by decide +kernel
theorem dX0_foldOnOnePlace_22 : decode cX0_foldOnOnePlace 22 = .ok (.aload_n 0, 1) := by decide +kernel
theorem dX0_foldOnOnePlace_23 : decode cX0_foldOnOnePlace 23 = .ok (.getfield 12, 3) := by decide +kernel
theorem dX0_foldOnOnePlace_26 : decode cX0_foldOnOnePlace 26 = .ok (.getfield 88, 3) := by decide +kernel
theorem dX0_foldOnOnePlace_29 : decode cX0_foldOnOnePlace 29 = .ok (.iload_n 1, 1) := by decide +kernel
theorem dX0_foldOnOnePlace_30 : decode cX0_foldOnOnePlace 30 = .ok (.iaload, 1) := by decide +kernel
theorem dX0_foldOnOnePlace_31 : decode cX0_foldOnOnePlace 31 = .ok (.aload_n 0, 1) := by decide +kernel
theorem dX0_foldOnOnePlace_32 : decode cX0_foldOnOnePlace 32 = .ok (.getfield 29, 3) := by decide +kernel
theorem dX0_foldOnOnePlace_35 : decode cX0_foldOnOnePlace 35 = .ok (.getfield 52, 3) := by decide +kernel
theorem dX0_foldOnOnePlace_38 : decode cX0_foldOnOnePlace 38 = .ok (.iadd, 1) := by decide +kernel
theorem dX0_foldOnOnePlace_39 : decode cX0_foldOnOnePlace 39 = .ok (.aload_n 0, 1) := by decide +kernel
theorem dX0_foldOnOnePlace_40 : decode cX0_foldOnOnePlace 40 = .ok (.getfield 12, 3) := by decide +kernel
theorem dX0_foldOnOnePlace_43 : decode cX0_foldOnOnePlace 43 = .ok (.getfield 92, 3) := by decide +kernel
theorem dX0_foldOnOnePlace_46 : decode cX0_foldOnOnePlace 46 = .ok (.iload_n 1, 1) := by decide +kernel
theorem dX0_foldOnOnePlace_47 : decode cX0_foldOnOnePlace 47 = .ok (.iaload, 1) := by decide +kernel
theorem dX0_foldOnOnePlace_48 : decode cX0_foldOnOnePlace 48 = .ok (.invokevirtual 101, 3) := by decide +kernel
theorem dX0_foldOnOnePlace_51 : decode cX0_foldOnOnePlace 51 = .ok (.goto 11, 3) := by decide +kernel
theorem dX0_foldOnOnePlace_54 : decode cX0_foldOnOnePlace 54 = .ok (.aload_n 0, 1) := by decide +kernel
theorem dX0_foldOnOnePlace_55 : decode cX0_foldOnOnePlace 55 = .ok (.getfield 21, 3) := by decide +kernel
theorem dX0_foldOnOnePlace_58 : decode cX0_foldOnOnePlace 58 = .ok (.iload_n 1, 1) := by decide +kernel
theorem dX0_foldOnOnePlace_59 : decode cX0_foldOnOnePlace 59 = .ok (.invokevirtual 71, 3) := by decide +kernel
theorem dX0_foldOnOnePlace_62 : decode cX0_foldOnOnePlace 62 = .ok (.return_, 1) := by decide +kernel
theorem dX0_missAt_0 : decode cX0_missAt 0 = .ok (.aload_n 0, 1) := by decide +kernel
theorem dX0_missAt_1 : decode cX0_missAt 1 = .ok (.getfield 21, 3) := by decide +kernel
theorem dX0_missAt_4 : decode cX0_missAt 4 = .ok (.getfield 67, 3) := by decide +kernel
theorem dX0_missAt_7 : decode cX0_missAt 7 = .ok (.iload_n 1, 1) := by decide +kernel
theorem dX0_missAt_8 : decode cX0_missAt 8 = .ok (.baload, 1) := by decide +kernel
theorem dX0_missAt_9 : decode cX0_missAt 9 = .ok (.ifCond .eq 5, 3) := by decide +kernel
theorem dX0_missAt_12 : decode cX0_missAt 12 = .ok (.iconst 0, 1) := by decide +kernel
theorem dX0_missAt_13 : decode cX0_missAt 13 = .ok (.ireturn, 1) := by decide +kernel
theorem dX0_missAt_14 : decode cX0_missAt 14 = .ok (.aload_n 0, 1) := by decide +kernel
theorem dX0_missAt_15 : decode cX0_missAt 15 = .ok (.getfield 29, 3) := by decide +kernel
theorem dX0_missAt_18 : decode cX0_missAt 18 = .ok (.getfield 52, 3) := by decide +kernel
theorem dX0_missAt_21 : decode cX0_missAt 21 = .ok (.i2l, 1) := by decide +kernel
theorem dX0_missAt_22 : decode cX0_missAt 22 = .ok (.lstore_n 2, 1) := by decide +kernel
theorem dX0_missAt_23 : decode cX0_missAt 23 = .ok (.aload_n 0, 1) := by decide +kernel
theorem dX0_missAt_24 : decode cX0_missAt 24 = .ok (.getfield 33, 3) := by decide +kernel
theorem dX0_missAt_27 : decode cX0_missAt 27 = .ok (.getfield 52, 3) := by decide +kernel
theorem dX0_missAt_30 : decode cX0_missAt 30 = .ok (.i2l, 1) := by decide +kernel
theorem dX0_missAt_31 : decode cX0_missAt 31 = .ok (.lstore 4, 2) := by decide +kernel
theorem dX0_missAt_33 : decode cX0_missAt 33 = .ok (.aload_n 0, 1) := by decide +kernel
theorem dX0_missAt_34 : decode cX0_missAt 34 = .ok (.getfield 12, 3) := by decide +kernel
theorem dX0_missAt_37 : decode cX0_missAt 37 = .ok (.aload_n 0, 1) := by decide +kernel
theorem dX0_missAt_38 : decode cX0_missAt 38 = .ok (.getfield 21, 3) := by decide +kernel
theorem dX0_missAt_41 : decode cX0_missAt 41 = .ok (.iload_n 1, 1) := by decide +kernel
theorem dX0_missAt_42 : decode cX0_missAt 42 = .ok (.invokevirtual 75, 3) := by decide +kernel
theorem dX0_missAt_45 : decode cX0_missAt 45 = .ok (.lload_n 2, 1) := by decide +kernel
theorem dX0_missAt_46 : decode cX0_missAt 46 = .ok (.lload_n 2, 1) := by decide +kernel
theorem dX0_missAt_47 : decode cX0_missAt 47 = .ok (.lmul, 1) := by decide +kernel
theorem dX0_missAt_48 : decode cX0_missAt 48 = .ok (.lsub, 1) := by decide +kernel
theorem dX0_missAt_49 : decode cX0_missAt 49 = .ok (.invokestatic 105, 3) := by decide +kernel
theorem dX0_missAt_52 : decode cX0_missAt 52 = .ok (.lstore 6, 2) := by decide +kernel
theorem dX0_missAt_54 : decode cX0_missAt 54 = .ok (.aload_n 0, 1) := by decide +kernel
theorem dX0_missAt_55 : decode cX0_missAt 55 = .ok (.getfield 18, 3) := by decide +kernel
theorem dX0_missAt_58 : decode cX0_missAt 58 = .ok (.aload_n 0, 1) := by decide +kernel
theorem dX0_missAt_59 : decode cX0_missAt 59 = .ok (.getfield 21, 3) := by decide +kernel
theorem dX0_missAt_62 : decode cX0_missAt 62 = .ok (.iload_n 1, 1) := by decide +kernel
theorem dX0_missAt_63 : decode cX0_missAt 63 = .ok (.invokevirtual 75, 3) := by decide +kernel
theorem dX0_missAt_66 : decode cX0_missAt 66 = .ok (.lload 4, 2) := by decide +kernel
theorem dX0_missAt_68 : decode cX0_missAt 68 = .ok (.lload 4, 2) := by decide +kernel
theorem dX0_missAt_70 : decode cX0_missAt 70 = .ok (.lmul, 1) := by decide +kernel
theorem dX0_missAt_71 : decode cX0_missAt 71 = .ok (.lsub, 1) := by decide +kernel
theorem dX0_missAt_72 : decode cX0_missAt 72 = .ok (.invokestatic 105, 3) := by decide +kernel
theorem dX0_missAt_75 : decode cX0_missAt 75 = .ok (.lstore 8, 2) := by decide +kernel
theorem dX0_missAt_77 : decode cX0_missAt 77 = .ok (.lload 6, 2) := by decide +kernel
theorem dX0_missAt_79 : decode cX0_missAt 79 = .ok (.lload 8, 2) := by decide +kernel
theorem dX0_missAt_81 : decode cX0_missAt 81 = .ok (.invokestatic 110, 3) := by decide +kernel
theorem dX0_missAt_84 : decode cX0_missAt 84 = .ok (.l2i, 1) := by decide +kernel
theorem dX0_missAt_85 : decode cX0_missAt 85 = .ok (.ireturn, 1) := by decide +kernel
theorem dX0_isNearHeight_0 : decode cX0_isNearHeight 0 = .ok (.aload_n 0, 1) := by decide +kernel
theorem dX0_isNearHeight_1 : decode cX0_isNearHeight 1 = .ok (.getfield 21, 3) := by decide +kernel
theorem dX0_isNearHeight_4 : decode cX0_isNearHeight 4 = .ok (.getfield 67, 3) := by decide +kernel
theorem dX0_isNearHeight_7 : decode cX0_isNearHeight 7 = .ok (.iload_n 1, 1) := by decide +kernel
theorem dX0_isNearHeight_8 : decode cX0_isNearHeight 8 = .ok (.baload, 1) := by decide +kernel
theorem dX0_isNearHeight_9 : decode cX0_isNearHeight 9 = .ok (.ifCond .ne 29, 3) := by decide +kernel
theorem dX0_isNearHeight_12 : decode cX0_isNearHeight 12 = .ok (.aload_n 0, 1) := by decide +kernel
theorem dX0_isNearHeight_13 : decode cX0_isNearHeight 13 = .ok (.getfield 21, 3) := by decide +kernel
theorem dX0_isNearHeight_16 : decode cX0_isNearHeight 16 = .ok (.getfield 92, 3) := by decide +kernel
theorem dX0_isNearHeight_19 : decode cX0_isNearHeight 19 = .ok (.iload_n 1, 1) := by decide +kernel
theorem dX0_isNearHeight_20 : decode cX0_isNearHeight 20 = .ok (.iaload, 1) := by decide +kernel
theorem dX0_isNearHeight_21 : decode cX0_isNearHeight 21 = .ok (.i2l, 1) := by decide +kernel
theorem dX0_isNearHeight_22 : decode cX0_isNearHeight 22 = .ok (.iload_n 2, 1) := by decide +kernel
theorem dX0_isNearHeight_23 : decode cX0_isNearHeight 23 = .ok (.i2l, 1) := by decide +kernel
theorem dX0_isNearHeight_24 : decode cX0_isNearHeight 24 = .ok (.lsub, 1) := by decide +kernel
theorem dX0_isNearHeight_25 : decode cX0_isNearHeight 25 = .ok (.invokestatic 105, 3) := by decide +kernel
theorem dX0_isNearHeight_28 : decode cX0_isNearHeight 28 = .ok (.iload_n 3, 1) := by decide +kernel
theorem dX0_isNearHeight_29 : decode cX0_isNearHeight 29 = .ok (.i2l, 1) := by decide +kernel
theorem dX0_isNearHeight_30 : decode cX0_isNearHeight 30 = .ok (.lcmp, 1) := by decide +kernel
theorem dX0_isNearHeight_31 : decode cX0_isNearHeight 31 = .ok (.ifCond .gt 7, 3) := by decide +kernel
theorem dX0_isNearHeight_34 : decode cX0_isNearHeight 34 = .ok (.iconst 1, 1) := by decide +kernel
theorem dX0_isNearHeight_35 : decode cX0_isNearHeight 35 = .ok (.goto 4, 3) := by decide +kernel
theorem dX0_isNearHeight_38 : decode cX0_isNearHeight 38 = .ok (.iconst 0, 1) := by decide +kernel
theorem dX0_isNearHeight_39 : decode cX0_isNearHeight 39 = .ok (.ireturn, 1) := by decide +kernel
theorem dX1_init_0 : decode cX1_init 0 = .ok (.aload_n 0, 1) := by decide +kernel
theorem dX1_init_1 : decode cX1_init 1 = .ok (.invokespecial 3, 3) := by decide +kernel
theorem dX1_init_4 : decode cX1_init 4 = .ok (.aload_n 0, 1) := by decide +kernel
theorem dX1_init_5 : decode cX1_init 5 = .ok (.aload_n 1, 1) := by decide +kernel
theorem dX1_init_6 : decode cX1_init 6 = .ok (.putfield 9, 3) := by decide +kernel
theorem dX1_init_9 : decode cX1_init 9 = .ok (.aload_n 0, 1) := by decide +kernel
theorem dX1_init_10 : decode cX1_init 10 = .ok (.aload_n 2, 1) := by decide +kernel
theorem dX1_init_11 : decode cX1_init 11 = .ok (.putfield 15, 3) := by decide +kernel
theorem dX1_init_14 : decode cX1_init 14 = .ok (.aload_n 0, 1) := by decide +kernel
theorem dX1_init_15 : decode cX1_init 15 = .ok (.aload_n 3, 1) := by decide +kernel
theorem dX1_init_16 : decode cX1_init 16 = .ok (.putfield 18, 3) := by decide +kernel
theorem dX1_init_19 : decode cX1_init 19 = .ok (.aload_n 0, 1) := by decide +kernel
theorem dX1_init_20 : decode cX1_init 20 = .ok (.iload 4, 2) := by decide +kernel
theorem dX1_init_22 : decode cX1_init 22 = .ok (.putfield 21, 3) := by decide +kernel
theorem dX1_init_25 : decode cX1_init 25 = .ok (.return_, 1) := by decide +kernel
theorem dX1_isStuck_0 : decode cX1_isStuck 0 = .ok (.aload_n 0, 1) := by decide +kernel
theorem dX1_isStuck_1 : decode cX1_isStuck 1 = .ok (.getfield 15, 3) := by decide +kernel
theorem dX1_isStuck_4 : decode cX1_isStuck 4 = .ok (.getfield 25, 3) := by decide +kernel
theorem dX1_isStuck_7 : decode cX1_isStuck 7 = .ok (.iload_n 1, 1) := by decide +kernel
theorem dX1_isStuck_8 : decode cX1_isStuck 8 = .ok (.baload, 1) := by decide +kernel
theorem dX1_isStuck_9 : decode cX1_isStuck 9 = .ok (.ireturn, 1) := by decide +kernel
theorem dX1_mark_0 : decode cX1_mark 0 = .ok (.aload_n 0, 1) := by decide +kernel
theorem dX1_mark_1 : decode cX1_mark 1 = .ok (.iload_n 2, 1) := by decide +kernel
theorem dX1_mark_2 : decode cX1_mark 2 = .ok (.invokevirtual 31, 3) := by decide +kernel
theorem dX1_mark_5 : decode cX1_mark 5 = .ok (.ifCond .eq 9, 3) := by decide +kernel
theorem dX1_mark_8 : decode cX1_mark 8 = .ok (.aload_n 3, 1) := by decide +kernel
theorem dX1_mark_9 : decode cX1_mark 9 = .ok (.iload_n 2, 1) := by decide +kernel
theorem dX1_mark_10 : decode cX1_mark 10 = .ok (.invokevirtual 35, 3) := by decide +kernel
theorem dX1_mark_13 : decode cX1_mark 13 = .ok (.return_, 1) := by decide +kernel
theorem dX1_mark_14 : decode cX1_mark 14 = .ok (.aload_n 0, 1) := by decide +kernel
theorem dX1_mark_15 : decode cX1_mark 15 = .ok (.getfield 21, 3) := by decide +kernel
theorem dX1_mark_18 : decode cX1_mark 18 = .ok (.ifCond .eq 9, 3) := by decide +kernel
theorem dX1_mark_21 : decode cX1_mark 21 = .ok (.sipush 10000, 3) := by decide +kernel
theorem dX1_mark_24 : decode cX1_mark 24 = .ok (.goto 7, 3) := by decide +kernel
theorem dX1_mark_27 : decode cX1_mark 27 = .ok (.aload_n 0, 1) := by decide +kernel
theorem dX1_mark_28 : decode cX1_mark 28 = .ok (.getfield 39, 3) := by decide +kernel
theorem dX1_mark_31 : decode cX1_mark 31 = .ok (.istore 4, 2) := by decide +kernel
theorem dX1_mark_33 : decode cX1_mark 33 = .ok (.aload_n 0, 1) := by decide +kernel
theorem dX1_mark_34 : decode cX1_mark 34 = .ok (.getfield 9, 3) := by decide +kernel
theorem dX1_mark_37 : decode cX1_mark 37 = .ok (.getfield 43, 3) := by decide +kernel
theorem dX1_mark_40 : decode cX1_mark 40 = .ok (.iload_n 2, 1) := by decide +kernel
theorem dX1_mark_41 : decode cX1_mark 41 = .ok (.iaload, 1) := by decide +kernel
theorem dX1_mark_42 : decode cX1_mark 42 = .ok (.istore 5, 2) := by decide +kernel
theorem dX1_mark_44 : decode cX1_mark 44 = .ok (.aload_n 0, 1) := by decide +kernel
theorem dX1_mark_45 : decode cX1_mark 45 = .ok (.getfield 9, 3) := by decide +kernel
theorem dX1_mark_48 : decode cX1_mark 48 = .ok (.getfield 47, 3) := by decide +kernel
theorem dX1_mark_51 : decode cX1_mark 51 = .ok (.iload_n 2, 1) := by decide +kernel
theorem dX1_mark_52 : decode cX1_mark 52 = .ok (.iaload, 1) := by decide +kernel
theorem dX1_mark_53 : decode cX1_mark 53 = .ok (.istore 6, 2) := by decide +kernel
theorem dX1_mark_55 : decode cX1_mark 55 = .ok (.aload_n 0, 1) := by decide +kernel
theorem dX1_mark_56 : decode cX1_mark 56 = .ok (.getfield 18, 3) := by decide +kernel
theorem dX1_mark_59 : decode cX1_mark 59 = .ok (.getfield 43, 3) := by decide +kernel
theorem dX1_mark_62 : decode cX1_mark 62 = .ok (.iload_n 2, 1) := by decide +kernel
theorem dX1_mark_63 : decode cX1_mark 63 = .ok (.iaload, 1) := by decide +kernel
theorem dX1_mark_64 : decode cX1_mark 64 = .ok (.iload 5, 2) := by decide +kernel
theorem dX1_mark_66 : decode cX1_mark 66 = .ok (.isub, 1) := by decide +kernel
theorem dX1_mark_67 : decode cX1_mark 67 = .ok (.i2l, 1) := by decide +kernel
theorem dX1_mark_68 : decode cX1_mark 68 = .ok (.lstore 7, 2) := by decide +kernel
theorem dX1_mark_70 : decode cX1_mark 70 = .ok (.aload_n 0, 1) := by decide +kernel
theorem dX1_mark_71 : decode cX1_mark 71 = .ok (.getfield 18, 3) := by decide +kernel
theorem dX1_mark_74 : decode cX1_mark 74 = .ok (.getfield 47, 3) := by decide +kernel
theorem dX1_mark_77 : decode cX1_mark 77 = .ok (.iload_n 2, 1) := by decide +kernel
theorem dX1_mark_78 : decode cX1_mark 78 = .ok (.iaload, 1) := by decide +kernel
theorem dX1_mark_79 : decode cX1_mark 79 = .ok (.iload 6, 2) := by decide +kernel
theorem dX1_mark_81 : decode cX1_mark 81 = .ok (.isub, 1) := by decide +kernel
theorem dX1_mark_82 : decode cX1_mark 82 = .ok (.i2l, 1) := by decide +kernel
theorem dX1_mark_83 : decode cX1_mark 83 = .ok (.lstore 9, 2) := by decide +kernel
theorem dX1_mark_85 : decode cX1_mark 85 = .ok (.aload_n 3, 1) := by decide +kernel
theorem dX1_mark_86 : decode cX1_mark 86 = .ok (.iload_n 2, 1) := by decide +kernel
theorem dX1_mark_87 : decode cX1_mark 87 = .ok (.iload 5, 2) := by decide +kernel
theorem dX1_mark_89 : decode cX1_mark 89 = .ok (.lload 7, 2) := by decide +kernel
theorem dX1_mark_91 : decode cX1_mark 91 = .ok (.iload_n 1, 1) := by decide +kernel
theorem dX1_mark_92 : decode cX1_mark 92 = .ok (.i2l, 1) := by decide +kernel
theorem dX1_mark_93 : decode cX1_mark 93 = .ok (.lmul, 1) := by decide +kernel
theorem dX1_mark_94 : decode cX1_mark 94 = .ok (.iload 4, 2) := by decide +kernel
theorem dX1_mark_96 : decode cX1_mark 96 = .ok (.i2l, 1) := by decide +kernel
theorem dX1_mark_97 : decode cX1_mark 97 = .ok (.invokestatic 50, 3) := by decide +kernel
theorem dX1_mark_100 : decode cX1_mark 100 = .ok (.iadd, 1) := by decide +kernel
theorem dX1_mark_101 : decode cX1_mark 101 = .ok (.iload 6, 2) := by decide +kernel
theorem dX1_mark_103 : decode cX1_mark 103 = .ok (.lload 9, 2) := by decide +kernel
theorem dX1_mark_105 : decode cX1_mark 105 = .ok (.iload_n 1, 1) := by decide +kernel
theorem dX1_mark_106 : decode cX1_mark 106 = .ok (.i2l, 1) := by decide +kernel
theorem dX1_mark_107 : decode cX1_mark 107 = .ok (.lmul, 1) := by decide +kernel
theorem dX1_mark_108 : decode cX1_mark 108 = .ok (.iload 4, 2) := by decide +kernel
theorem dX1_mark_110 : decode cX1_mark 110 = .ok (.i2l, 1) := by decide +kernel
theorem dX1_mark_111 : decode cX1_mark 111 = .ok (.invokestatic 50, 3) := by decide +kernel
theorem dX1_mark_114 : decode cX1_mark 114 = .ok (.iadd, 1) := by decide +kernel
theorem dX1_mark_115 : decode cX1_mark 115 = .ok (.invokevirtual 54, 3) := by decide +kernel
theorem dX1_mark_118 : decode cX1_mark 118 = .ok (.return_, 1) := by decide +kernel
theorem dX1_sideOf_0 : decode cX1_sideOf 0 = .ok (.aload_n 0, 1) := by decide +kernel
theorem dX1_sideOf_1 : decode cX1_sideOf 1 = .ok (.getfield 15, 3) := by decide +kernel
theorem dX1_sideOf_4 : decode cX1_sideOf 4 = .ok (.getfield 43, 3) := by decide +kernel
theorem dX1_sideOf_7 : decode cX1_sideOf 7 = .ok (.iload_n 2, 1) := by decide +kernel
theorem dX1_sideOf_8 : decode cX1_sideOf 8 = .ok (.iaload, 1) := by decide +kernel
theorem dX1_sideOf_9 : decode cX1_sideOf 9 = .ok (.aload_n 0, 1) := by decide +kernel
theorem dX1_sideOf_10 : decode cX1_sideOf 10 = .ok (.getfield 9, 3) := by decide +kernel
theorem dX1_sideOf_13 : decode cX1_sideOf 13 = .ok (.getfield 43, 3) := by decide +kernel
theorem dX1_sideOf_16 : decode cX1_sideOf 16 = .ok (.iload_n 2, 1) := by decide +kernel
theorem dX1_sideOf_17 : decode cX1_sideOf 17 = .ok (.iaload, 1) := by decide +kernel
theorem dX1_sideOf_18 : decode cX1_sideOf 18 = .ok (.isub, 1) := by decide +kernel
theorem dX1_sideOf_19 : decode cX1_sideOf 19 = .ok (.i2l, 1) := by decide +kernel
theorem dX1_sideOf_20 : decode cX1_sideOf 20 = .ok (.lstore_n 3, 1) := by decide +kernel
theorem dX1_sideOf_21 : decode cX1_sideOf 21 = .ok (.aload_n 0, 1) := by decide +kernel
theorem dX1_sideOf_22 : decode cX1_sideOf 22 = .ok (.getfield 15, 3) := by decide +kernel
theorem dX1_sideOf_25 : decode cX1_sideOf 25 = .ok (.getfield 47, 3) := by decide +kernel
theorem dX1_sideOf_28 : decode cX1_sideOf 28 = .ok (.iload_n 2, 1) := by decide +kernel
theorem dX1_sideOf_29 : decode cX1_sideOf 29 = .ok (.iaload, 1) := by decide +kernel
theorem dX1_sideOf_30 : decode cX1_sideOf 30 = .ok (.aload_n 0, 1) := by decide +kernel
theorem dX1_sideOf_31 : decode cX1_sideOf 31 = .ok (.getfield 9, 3) := by decide +kernel
theorem dX1_sideOf_34 : decode cX1_sideOf 34 = .ok (.getfield 47, 3) := by decide +kernel
theorem dX1_sideOf_37 : decode cX1_sideOf 37 = .ok (.iload_n 2, 1) := by decide +kernel
theorem dX1_sideOf_38 : decode cX1_sideOf 38 = .ok (.iaload, 1) := by decide +kernel
theorem dX1_sideOf_39 : decode cX1_sideOf 39 = .ok (.isub, 1) := by decide +kernel
theorem dX1_sideOf_40 : decode cX1_sideOf 40 = .ok (.i2l, 1) := by decide +kernel
theorem dX1_sideOf_41 : decode cX1_sideOf 41 = .ok (.lstore 5, 2) := by decide +kernel
theorem dX1_sideOf_43 : decode cX1_sideOf 43 = .ok (.aload_n 1, 1) := by decide +kernel
theorem dX1_sideOf_44 : decode cX1_sideOf 44 = .ok (.getfield 43, 3) := by decide +kernel
theorem dX1_sideOf_47 : decode cX1_sideOf 47 = .ok (.iload_n 2, 1) := by decide +kernel
theorem dX1_sideOf_48 : decode cX1_sideOf 48 = .ok (.iaload, 1) := by decide +kernel
theorem dX1_sideOf_49 : decode cX1_sideOf 49 = .ok (.aload_n 0, 1) := by decide +kernel
theorem dX1_sideOf_50 : decode cX1_sideOf 50 = .ok (.getfield 9, 3) := by decide +kernel
theorem dX1_sideOf_53 : decode cX1_sideOf 53 = .ok (.getfield 43, 3) := by decide +kernel
theorem dX1_sideOf_56 : decode cX1_sideOf 56 = .ok (.iload_n 2, 1) := by decide +kernel
theorem dX1_sideOf_57 : decode cX1_sideOf 57 = .ok (.iaload, 1) := by decide +kernel
theorem dX1_sideOf_58 : decode cX1_sideOf 58 = .ok (.isub, 1) := by decide +kernel
theorem dX1_sideOf_59 : decode cX1_sideOf 59 = .ok (.i2l, 1) := by decide +kernel
theorem dX1_sideOf_60 : decode cX1_sideOf 60 = .ok (.lstore 7, 2) := by decide +kernel
theorem dX1_sideOf_62 : decode cX1_sideOf 62 = .ok (.aload_n 1, 1) := by decide +kernel
theorem dX1_sideOf_63 : decode cX1_sideOf 63 = .ok (.getfield 47, 3) := by decide +kernel
theorem dX1_sideOf_66 : decode cX1_sideOf 66 = .ok (.iload_n 2, 1) := by decide +kernel
theorem dX1_sideOf_67 : decode cX1_sideOf 67 = .ok (.iaload, 1) := by decide +kernel
theorem dX1_sideOf_68 : decode cX1_sideOf 68 = .ok (.aload_n 0, 1) := by decide +kernel
theorem dX1_sideOf_69 : decode cX1_sideOf 69 = .ok (.getfield 9, 3) := by decide +kernel
theorem dX1_sideOf_72 : decode cX1_sideOf 72 = .ok (.getfield 47, 3) := by decide +kernel
theorem dX1_sideOf_75 : decode cX1_sideOf 75 = .ok (.iload_n 2, 1) := by decide +kernel
theorem dX1_sideOf_76 : decode cX1_sideOf 76 = .ok (.iaload, 1) := by decide +kernel
theorem dX1_sideOf_77 : decode cX1_sideOf 77 = .ok (.isub, 1) := by decide +kernel
theorem dX1_sideOf_78 : decode cX1_sideOf 78 = .ok (.i2l, 1) := by decide +kernel
theorem dX1_sideOf_79 : decode cX1_sideOf 79 = .ok (.lstore 9, 2) := by decide +kernel
theorem dX1_sideOf_81 : decode cX1_sideOf 81 = .ok (.lload_n 3, 1) := by decide +kernel
theorem dX1_sideOf_82 : decode cX1_sideOf 82 = .ok (.lload 9, 2) := by decide +kernel
theorem dX1_sideOf_84 : decode cX1_sideOf 84 = .ok (.lmul, 1) := by decide +kernel
theorem dX1_sideOf_85 : decode cX1_sideOf 85 = .ok (.lload 5, 2) := by decide +kernel
theorem dX1_sideOf_87 : decode cX1_sideOf 87 = .ok (.lload 7, 2) := by decide +kernel
theorem dX1_sideOf_89 : decode cX1_sideOf 89 = .ok (.lmul, 1) := by decide +kernel
theorem dX1_sideOf_90 : decode cX1_sideOf 90 = .ok (.lsub, 1) := by decide +kernel
theorem dX1_sideOf_91 : decode cX1_sideOf 91 = .ok (.lreturn, 1) := by decide +kernel
theorem dX1_isBetweenEndsOf_0 : decode cX1_isBetweenEndsOf 0 = .ok (.aload_n 0, 1) := by decide +kernel
theorem dX1_isBetweenEndsOf_1 : decode cX1_isBetweenEndsOf 1 = .ok (.aload_n 1, 1) := by decide +kernel
theorem dX1_isBetweenEndsOf_2 : decode cX1_isBetweenEndsOf 2 = .ok (.getfield 9, 3) := by decide +kernel
theorem dX1_isBetweenEndsOf_5 : decode cX1_isBetweenEndsOf 5 = .ok (.iload_n 2, 1) := by decide +kernel
theorem dX1_isBetweenEndsOf_6 : decode cX1_isBetweenEndsOf 6 = .ok (.invokevirtual 58, 3) := by decide +kernel
theorem dX1_isBetweenEndsOf_9 : decode cX1_isBetweenEndsOf 9 = .ok (.lstore_n 3, 1) := by decide +kernel
theorem dX1_isBetweenEndsOf_10 : decode cX1_isBetweenEndsOf 10 = .ok (.aload_n 0, 1) := by decide +kernel
theorem dX1_isBetweenEndsOf_11 : decode cX1_isBetweenEndsOf 11 = .ok (.aload_n 1, 1) := by decide +kernel
theorem dX1_isBetweenEndsOf_12 : decode cX1_isBetweenEndsOf 12 = .ok (.getfield 15, 3) := by decide +kernel
theorem dX1_isBetweenEndsOf_15 : decode cX1_isBetweenEndsOf 15 = .ok (.iload_n 2, 1) := by decide +kernel
theorem dX1_isBetweenEndsOf_16 : decode cX1_isBetweenEndsOf 16 = .ok (.invokevirtual 58, 3) := by decide +kernel
theorem dX1_isBetweenEndsOf_19 : decode cX1_isBetweenEndsOf 19 = .ok (.lstore 5, 2) := by decide +kernel
theorem dX1_isBetweenEndsOf_21 : decode cX1_isBetweenEndsOf 21 = .ok (.lload_n 3, 1) := by decide +kernel
theorem dX1_isBetweenEndsOf_22 : decode cX1_isBetweenEndsOf 22 = .ok (.lconst 0, 1) := by decide +kernel
theorem dX1_isBetweenEndsOf_23 : decode cX1_isBetweenEndsOf 23 = .ok (.lcmp, 1) := by decide +kernel
theorem dX1_isBetweenEndsOf_24 : decode cX1_isBetweenEndsOf 24 = .ok (.ifCond .ge 10, 3) := by decide +kernel
theorem dX1_isBetweenEndsOf_27 : decode cX1_isBetweenEndsOf 27 = .ok (.lload 5, 2) := by decide +kernel
theorem dX1_isBetweenEndsOf_29 : decode cX1_isBetweenEndsOf 29 = .ok (.lconst 0, 1) := by decide +kernel
theorem dX1_isBetweenEndsOf_30 : decode cX1_isBetweenEndsOf 30 = .ok (.lcmp, 1) := by decide +kernel
theorem dX1_isBetweenEndsOf_31 : decode cX1_isBetweenEndsOf 31 = .ok (.ifCond .gt 16, 3) := by decide +kernel
theorem dX1_isBetweenEndsOf_34 : decode cX1_isBetweenEndsOf 34 = .ok (.lload_n 3, 1) := by decide +kernel
theorem dX1_isBetweenEndsOf_35 : decode cX1_isBetweenEndsOf 35 = .ok (.lconst 0, 1) := by decide +kernel
theorem dX1_isBetweenEndsOf_36 : decode cX1_isBetweenEndsOf 36 = .ok (.lcmp, 1) := by decide +kernel
theorem dX1_isBetweenEndsOf_37 : decode cX1_isBetweenEndsOf 37 = .ok (.ifCond .le 14, 3) := by decide +kernel
theorem dX1_isBetweenEndsOf_40 : decode cX1_isBetweenEndsOf 40 = .ok (.lload 5, 2) := by decide +kernel
theorem dX1_isBetweenEndsOf_42 : decode cX1_isBetweenEndsOf 42 = .ok (.lconst 0, 1) := by decide +kernel
theorem dX1_isBetweenEndsOf_43 : decode cX1_isBetweenEndsOf 43 = .ok (.lcmp, 1) := by decide +kernel
theorem dX1_isBetweenEndsOf_44 : decode cX1_isBetweenEndsOf 44 = .ok (.ifCond .ge 7, 3) := by decide +kernel
theorem dX1_isBetweenEndsOf_47 : decode cX1_isBetweenEndsOf 47 = .ok (.iconst 1, 1) := by decide +kernel
theorem dX1_isBetweenEndsOf_48 : decode cX1_isBetweenEndsOf 48 = .ok (.goto 4, 3) := by decide +kernel
theorem dX1_isBetweenEndsOf_51 : decode cX1_isBetweenEndsOf 51 = .ok (.iconst 0, 1) := by decide +kernel
theorem dX1_isBetweenEndsOf_52 : decode cX1_isBetweenEndsOf 52 = .ok (.ireturn, 1) := by decide +kernel
theorem dX1_runsInto_0 : decode cX1_runsInto 0 = .ok (.aload_n 0, 1) := by decide +kernel
theorem dX1_runsInto_1 : decode cX1_runsInto 1 = .ok (.iload_n 2, 1) := by decide +kernel
theorem dX1_runsInto_2 : decode cX1_runsInto 2 = .ok (.invokevirtual 31, 3) := by decide +kernel
theorem dX1_runsInto_5 : decode cX1_runsInto 5 = .ok (.ifCond .ne 33, 3) := by decide +kernel
theorem dX1_runsInto_8 : decode cX1_runsInto 8 = .ok (.aload_n 1, 1) := by decide +kernel
theorem dX1_runsInto_9 : decode cX1_runsInto 9 = .ok (.iload_n 2, 1) := by decide +kernel
theorem dX1_runsInto_10 : decode cX1_runsInto 10 = .ok (.invokevirtual 31, 3) := by decide +kernel
theorem dX1_runsInto_13 : decode cX1_runsInto 13 = .ok (.ifCond .ne 25, 3) := by decide +kernel
theorem dX1_runsInto_16 : decode cX1_runsInto 16 = .ok (.aload_n 0, 1) := by decide +kernel
theorem dX1_runsInto_17 : decode cX1_runsInto 17 = .ok (.aload_n 1, 1) := by decide +kernel
theorem dX1_runsInto_18 : decode cX1_runsInto 18 = .ok (.iload_n 2, 1) := by decide +kernel
theorem dX1_runsInto_19 : decode cX1_runsInto 19 = .ok (.invokevirtual 62, 3) := by decide +kernel
theorem dX1_runsInto_22 : decode cX1_runsInto 22 = .ok (.ifCond .eq 16, 3) := by decide +kernel
theorem dX1_runsInto_25 : decode cX1_runsInto 25 = .ok (.aload_n 1, 1) := by decide +kernel
theorem dX1_runsInto_26 : decode cX1_runsInto 26 = .ok (.aload_n 0, 1) := by decide +kernel
theorem dX1_runsInto_27 : decode cX1_runsInto 27 = .ok (.iload_n 2, 1) := by decide +kernel
theorem dX1_runsInto_28 : decode cX1_runsInto 28 = .ok (.invokevirtual 62, 3) := by decide +kernel
theorem dX1_runsInto_31 : decode cX1_runsInto 31 = .ok (.ifCond .eq 7, 3) := by decide +kernel
theorem dX1_runsInto_34 : decode cX1_runsInto 34 = .ok (.iconst 1, 1) := by decide +kernel
theorem dX1_runsInto_35 : decode cX1_runsInto 35 = .ok (.goto 4, 3) := by decide +kernel
theorem dX1_runsInto_38 : decode cX1_runsInto 38 = .ok (.iconst 0, 1) := by decide +kernel
theorem dX1_runsInto_39 : decode cX1_runsInto 39 = .ok (.ireturn, 1) := by decide +kernel
theorem dX2_init_0 : decode cX2_init 0 = .ok (.aload_n 0, 1) := by decide +kernel
theorem dX2_init_1 : decode cX2_init 1 = .ok (.invokespecial 3, 3) := by decide +kernel
theorem dX2_init_4 : decode cX2_init 4 = .ok (.aload_n 0, 1) := by decide +kernel
theorem dX2_init_5 : decode cX2_init 5 = .ok (.bipush 17, 2) := by decide +kernel
theorem dX2_init_7 : decode cX2_init 7 = .ok (.newarray .int, 2) := by decide +kernel
theorem dX2_init_9 : decode cX2_init 9 = .ok (.putfield 9, 3) := by decide +kernel
theorem dX2_init_12 : decode cX2_init 12 = .ok (.aload_n 0, 1) := by decide +kernel
theorem dX2_init_13 : decode cX2_init 13 = .ok (.bipush 17, 2) := by decide +kernel
theorem dX2_init_15 : decode cX2_init 15 = .ok (.newarray .int, 2) := by decide +kernel
theorem dX2_init_17 : decode cX2_init 17 = .ok (.putfield 15, 3) := by decide +kernel
theorem dX2_init_20 : decode cX2_init 20 = .ok (.aload_n 0, 1) := by decide +kernel
theorem dX2_init_21 : decode cX2_init 21 = .ok (.bipush 17, 2) := by decide +kernel
theorem dX2_init_23 : decode cX2_init 23 = .ok (.newarray .boolean, 2) := by decide +kernel
theorem dX2_init_25 : decode cX2_init 25 = .ok (.putfield 18, 3) := by decide +kernel
theorem dX2_init_28 : decode cX2_init 28 = .ok (.return_, 1) := by decide +kernel
theorem dX2_put_0 : decode cX2_put 0 = .ok (.aload_n 0, 1) := by decide +kernel
theorem dX2_put_1 : decode cX2_put 1 = .ok (.getfield 9, 3) := by decide +kernel
theorem dX2_put_4 : decode cX2_put 4 = .ok (.iload_n 1, 1) := by decide +kernel
theorem dX2_put_5 : decode cX2_put 5 = .ok (.iload_n 2, 1) := by decide +kernel
theorem dX2_put_6 : decode cX2_put 6 = .ok (.iastore, 1) := by decide +kernel
theorem dX2_put_7 : decode cX2_put 7 = .ok (.aload_n 0, 1) := by decide +kernel
theorem dX2_put_8 : decode cX2_put 8 = .ok (.getfield 15, 3) := by decide +kernel
theorem dX2_put_11 : decode cX2_put 11 = .ok (.iload_n 1, 1) := by decide +kernel
theorem dX2_put_12 : decode cX2_put 12 = .ok (.iload_n 3, 1) := by decide +kernel
theorem dX2_put_13 : decode cX2_put 13 = .ok (.iastore, 1) := by decide +kernel
theorem dX2_put_14 : decode cX2_put 14 = .ok (.aload_n 0, 1) := by decide +kernel
theorem dX2_put_15 : decode cX2_put 15 = .ok (.getfield 18, 3) := by decide +kernel
theorem dX2_put_18 : decode cX2_put 18 = .ok (.iload_n 1, 1) := by decide +kernel
theorem dX2_put_19 : decode cX2_put 19 = .ok (.iconst 0, 1) := by decide +kernel
theorem dX2_put_20 : decode cX2_put 20 = .ok (.bastore, 1) := by decide +kernel
theorem dX2_put_21 : decode cX2_put 21 = .ok (.return_, 1) := by decide +kernel
theorem dX2_lose_0 : decode cX2_lose 0 = .ok (.aload_n 0, 1) := by decide +kernel
theorem dX2_lose_1 : decode cX2_lose 1 = .ok (.getfield 18, 3) := by decide +kernel
theorem dX2_lose_4 : decode cX2_lose 4 = .ok (.iload_n 1, 1) := by decide +kernel
theorem dX2_lose_5 : decode cX2_lose 5 = .ok (.iconst 1, 1) := by decide +kernel
theorem dX2_lose_6 : decode cX2_lose 6 = .ok (.bastore, 1) := by decide +kernel
theorem dX2_lose_7 : decode cX2_lose 7 = .ok (.return_, 1) := by decide +kernel
theorem dX2_firstStuck_0 : decode cX2_firstStuck 0 = .ok (.iconst 0, 1) := by decide +kernel
theorem dX2_firstStuck_1 : decode cX2_firstStuck 1 = .ok (.istore_n 1, 1) := by decide +kernel
theorem dX2_firstStuck_2 : decode cX2_firstStuck 2 = .ok (.iload_n 1, 1) := by decide +kernel
theorem dX2_firstStuck_3 : decode cX2_firstStuck 3 = .ok (.bipush 17, 2) := by decide +kernel
theorem dX2_firstStuck_5 : decode cX2_firstStuck 5 = .ok (.if_icmp .ge 20, 3) := by decide +kernel
theorem dX2_firstStuck_8 : decode cX2_firstStuck 8 = .ok (.aload_n 0, 1) := by decide +kernel
theorem dX2_firstStuck_9 : decode cX2_firstStuck 9 = .ok (.getfield 18, 3) := by decide +kernel
theorem dX2_firstStuck_12 : decode cX2_firstStuck 12 = .ok (.iload_n 1, 1) := by decide +kernel
theorem dX2_firstStuck_13 : decode cX2_firstStuck 13 = .ok (.baload, 1) := by decide +kernel
theorem dX2_firstStuck_14 : decode cX2_firstStuck 14 = .ok (.ifCond .eq 5, 3) := by decide +kernel
theorem dX2_firstStuck_17 : decode cX2_firstStuck 17 = .ok (.iload_n 1, 1) := by decide +kernel
theorem dX2_firstStuck_18 : decode cX2_firstStuck 18 = .ok (.ireturn, 1) := by decide +kernel
theorem dX2_firstStuck_19 : decode cX2_firstStuck 19 = .ok (.iinc 1 1, 3) := by decide +kernel
theorem dX2_firstStuck_22 : decode cX2_firstStuck 22 = .ok (.goto (-20), 3) := by decide +kernel
theorem dX2_firstStuck_25 : decode cX2_firstStuck 25 = .ok (.bipush (-9), 2) := by decide +kernel
theorem dX2_firstStuck_27 : decode cX2_firstStuck 27 = .ok (.ireturn, 1) := by decide +kernel
theorem dX2_moveFrom_0 : decode cX2_moveFrom 0 = .ok (.aload_n 0, 1) := by decide +kernel
theorem dX2_moveFrom_1 : decode cX2_moveFrom 1 = .ok (.getfield 18, 3) := by decide +kernel
theorem dX2_moveFrom_4 : decode cX2_moveFrom 4 = .ok (.iload_n 1, 1) := by decide +kernel
theorem dX2_moveFrom_5 : decode cX2_moveFrom 5 = .ok (.baload, 1) := by decide +kernel
theorem dX2_moveFrom_6 : decode cX2_moveFrom 6 = .ok (.ifCond .ne 14, 3) := by decide +kernel
theorem dX2_moveFrom_9 : decode cX2_moveFrom 9 = .ok (.aload_n 0, 1) := by decide +kernel
theorem dX2_moveFrom_10 : decode cX2_moveFrom 10 = .ok (.getfield 18, 3) := by decide +kernel
theorem dX2_moveFrom_13 : decode cX2_moveFrom 13 = .ok (.iload_n 1, 1) := by decide +kernel
theorem dX2_moveFrom_14 : decode cX2_moveFrom 14 = .ok (.iconst 1, 1) := by decide +kernel
theorem dX2_moveFrom_15 : decode cX2_moveFrom 15 = .ok (.iadd, 1) := by decide +kernel
theorem dX2_moveFrom_16 : decode cX2_moveFrom 16 = .ok (.baload, 1) := by decide +kernel
theorem dX2_moveFrom_17 : decode cX2_moveFrom 17 = .ok (.ifCond .eq 5, 3) := by decide +kernel
theorem dX2_moveFrom_20 : decode cX2_moveFrom 20 = .ok (.iconst (-1), 1) := by decide +kernel
theorem dX2_moveFrom_21 : decode cX2_moveFrom 21 = .ok (.ireturn, 1) := by decide +kernel
theorem dX2_moveFrom_22 : decode cX2_moveFrom 22 = .ok (.aload_n 0, 1) := by decide +kernel
theorem dX2_moveFrom_23 : decode cX2_moveFrom 23 = .ok (.getfield 9, 3) := by decide +kernel
theorem dX2_moveFrom_26 : decode cX2_moveFrom 26 = .ok (.iload_n 1, 1) := by decide +kernel
theorem dX2_moveFrom_27 : decode cX2_moveFrom 27 = .ok (.iconst 1, 1) := by decide +kernel
theorem dX2_moveFrom_28 : decode cX2_moveFrom 28 = .ok (.iadd, 1) := by decide +kernel
theorem dX2_moveFrom_29 : decode cX2_moveFrom 29 = .ok (.iaload, 1) := by decide +kernel
theorem dX2_moveFrom_30 : decode cX2_moveFrom 30 = .ok (.aload_n 0, 1) := by decide +kernel
theorem dX2_moveFrom_31 : decode cX2_moveFrom 31 = .ok (.getfield 9, 3) := by decide +kernel
theorem dX2_moveFrom_34 : decode cX2_moveFrom 34 = .ok (.iload_n 1, 1) := by decide +kernel
theorem dX2_moveFrom_35 : decode cX2_moveFrom 35 = .ok (.iaload, 1) := by decide +kernel
theorem dX2_moveFrom_36 : decode cX2_moveFrom 36 = .ok (.isub, 1) := by decide +kernel
theorem dX2_moveFrom_37 : decode cX2_moveFrom 37 = .ok (.invokestatic 22, 3) := by decide +kernel
theorem dX2_moveFrom_40 : decode cX2_moveFrom 40 = .ok (.aload_n 0, 1) := by decide +kernel
theorem dX2_moveFrom_41 : decode cX2_moveFrom 41 = .ok (.getfield 15, 3) := by decide +kernel
theorem dX2_moveFrom_44 : decode cX2_moveFrom 44 = .ok (.iload_n 1, 1) := by decide +kernel
theorem dX2_moveFrom_45 : decode cX2_moveFrom 45 = .ok (.iconst 1, 1) := by decide +kernel
theorem dX2_moveFrom_46 : decode cX2_moveFrom 46 = .ok (.iadd, 1) := by decide +kernel
theorem dX2_moveFrom_47 : decode cX2_moveFrom 47 = .ok (.iaload, 1) := by decide +kernel
theorem dX2_moveFrom_48 : decode cX2_moveFrom 48 = .ok (.aload_n 0, 1) := by decide +kernel
theorem dX2_moveFrom_49 : decode cX2_moveFrom 49 = .ok (.getfield 15, 3) := by decide +kernel
theorem dX2_moveFrom_52 : decode cX2_moveFrom 52 = .ok (.iload_n 1, 1) := by decide +kernel
theorem dX2_moveFrom_53 : decode cX2_moveFrom 53 = .ok (.iaload, 1) := by decide +kernel
theorem dX2_moveFrom_54 : decode cX2_moveFrom 54 = .ok (.isub, 1) := by decide +kernel
theorem dX2_moveFrom_55 : decode cX2_moveFrom 55 = .ok (.invokestatic 22, 3) := by decide +kernel
theorem dX2_moveFrom_58 : decode cX2_moveFrom 58 = .ok (.invokestatic 28, 3) := by decide +kernel
theorem dX2_moveFrom_61 : decode cX2_moveFrom 61 = .ok (.ireturn, 1) := by decide +kernel
theorem dX2_squareTo_0 : decode cX2_squareTo 0 = .ok (.aload_n 1, 1) := by decide +kernel
theorem dX2_squareTo_1 : decode cX2_squareTo 1 = .ok (.getfield 9, 3) := by decide +kernel
theorem dX2_squareTo_4 : decode cX2_squareTo 4 = .ok (.iload_n 2, 1) := by decide +kernel
theorem dX2_squareTo_5 : decode cX2_squareTo 5 = .ok (.iaload, 1) := by decide +kernel
theorem dX2_squareTo_6 : decode cX2_squareTo 6 = .ok (.aload_n 0, 1) := by decide +kernel
theorem dX2_squareTo_7 : decode cX2_squareTo 7 = .ok (.getfield 9, 3) := by decide +kernel
theorem dX2_squareTo_10 : decode cX2_squareTo 10 = .ok (.iload_n 2, 1) := by decide +kernel
theorem dX2_squareTo_11 : decode cX2_squareTo 11 = .ok (.iaload, 1) := by decide +kernel
theorem dX2_squareTo_12 : decode cX2_squareTo 12 = .ok (.isub, 1) := by decide +kernel
theorem dX2_squareTo_13 : decode cX2_squareTo 13 = .ok (.i2l, 1) := by decide +kernel
theorem dX2_squareTo_14 : decode cX2_squareTo 14 = .ok (.lstore_n 3, 1) := by decide +kernel
theorem dX2_squareTo_15 : decode cX2_squareTo 15 = .ok (.aload_n 1, 1) := by decide +kernel
theorem dX2_squareTo_16 : decode cX2_squareTo 16 = .ok (.getfield 15, 3) := by decide +kernel
theorem dX2_squareTo_19 : decode cX2_squareTo 19 = .ok (.iload_n 2, 1) := by decide +kernel
theorem dX2_squareTo_20 : decode cX2_squareTo 20 = .ok (.iaload, 1) := by decide +kernel
theorem dX2_squareTo_21 : decode cX2_squareTo 21 = .ok (.aload_n 0, 1) := by decide +kernel
theorem dX2_squareTo_22 : decode cX2_squareTo 22 = .ok (.getfield 15, 3) := by decide +kernel
theorem dX2_squareTo_25 : decode cX2_squareTo 25 = .ok (.iload_n 2, 1) := by decide +kernel
theorem dX2_squareTo_26 : decode cX2_squareTo 26 = .ok (.iaload, 1) := by decide +kernel
theorem dX2_squareTo_27 : decode cX2_squareTo 27 = .ok (.isub, 1) := by decide +kernel
theorem dX2_squareTo_28 : decode cX2_squareTo 28 = .ok (.i2l, 1) := by decide +kernel
theorem dX2_squareTo_29 : decode cX2_squareTo 29 = .ok (.lstore 5, 2) := by decide +kernel
theorem dX2_squareTo_31 : decode cX2_squareTo 31 = .ok (.lload_n 3, 1) := by decide +kernel
theorem dX2_squareTo_32 : decode cX2_squareTo 32 = .ok (.lload_n 3, 1) := by decide +kernel
theorem dX2_squareTo_33 : decode cX2_squareTo 33 = .ok (.lmul, 1) := by decide +kernel
theorem dX2_squareTo_34 : decode cX2_squareTo 34 = .ok (.lload 5, 2) := by decide +kernel
theorem dX2_squareTo_36 : decode cX2_squareTo 36 = .ok (.lload 5, 2) := by decide +kernel
theorem dX2_squareTo_38 : decode cX2_squareTo 38 = .ok (.lmul, 1) := by decide +kernel
theorem dX2_squareTo_39 : decode cX2_squareTo 39 = .ok (.ladd, 1) := by decide +kernel
theorem dX2_squareTo_40 : decode cX2_squareTo 40 = .ok (.lreturn, 1) := by decide +kernel
theorem dX3_init_0 : decode cX3_init 0 = .ok (.aload_n 0, 1) := by decide +kernel
theorem dX3_init_1 : decode cX3_init 1 = .ok (.invokespecial 1, 3) := by decide +kernel
theorem dX3_init_4 : decode cX3_init 4 = .ok (.aload_n 0, 1) := by decide +kernel
theorem dX3_init_5 : decode cX3_init 5 = .ok (.bipush 30, 2) := by decide +kernel
theorem dX3_init_7 : decode cX3_init 7 = .ok (.anewarray 9, 3) := by decide +kernel
theorem dX3_init_10 : decode cX3_init 10 = .ok (.putfield 11, 3) := by decide +kernel
theorem dX3_init_13 : decode cX3_init 13 = .ok (.aload_n 0, 1) := by decide +kernel
theorem dX3_init_14 : decode cX3_init 14 = .ok (.bipush 62, 2) := by decide +kernel
theorem dX3_init_16 : decode cX3_init 16 = .ok (.anewarray 15, 3) := by decide +kernel
theorem dX3_init_19 : decode cX3_init 19 = .ok (.putfield 17, 3) := by decide +kernel
theorem dX3_init_22 : decode cX3_init 22 = .ok (.aload_n 0, 1) := by decide +kernel
theorem dX3_init_23 : decode cX3_init 23 = .ok (.bipush 7, 2) := by decide +kernel
theorem dX3_init_25 : decode cX3_init 25 = .ok (.newarray .int, 2) := by decide +kernel
theorem dX3_init_27 : decode cX3_init 27 = .ok (.putfield 21, 3) := by decide +kernel
theorem dX3_init_30 : decode cX3_init 30 = .ok (.aload_n 0, 1) := by decide +kernel
theorem dX3_init_31 : decode cX3_init 31 = .ok (.new 9, 3) := by decide +kernel
theorem dX3_init_34 : decode cX3_init 34 = .ok (.dup, 1) := by decide +kernel
theorem dX3_init_35 : decode cX3_init 35 = .ok (.invokespecial 25, 3) := by decide +kernel
theorem dX3_init_38 : decode cX3_init 38 = .ok (.putfield 26, 3) := by decide +kernel
theorem dX3_init_41 : decode cX3_init 41 = .ok (.aload_n 0, 1) := by decide +kernel
theorem dX3_init_42 : decode cX3_init 42 = .ok (.new 30, 3) := by decide +kernel
theorem dX3_init_45 : decode cX3_init 45 = .ok (.dup, 1) := by decide +kernel
theorem dX3_init_46 : decode cX3_init 46 = .ok (.invokespecial 32, 3) := by decide +kernel
theorem dX3_init_49 : decode cX3_init 49 = .ok (.putfield 33, 3) := by decide +kernel
theorem dX3_init_52 : decode cX3_init 52 = .ok (.new 30, 3) := by decide +kernel
theorem dX3_init_55 : decode cX3_init 55 = .ok (.dup, 1) := by decide +kernel
theorem dX3_init_56 : decode cX3_init 56 = .ok (.invokespecial 32, 3) := by decide +kernel
theorem dX3_init_59 : decode cX3_init 59 = .ok (.astore_n 1, 1) := by decide +kernel
theorem dX3_init_60 : decode cX3_init 60 = .ok (.new 30, 3) := by decide +kernel
theorem dX3_init_63 : decode cX3_init 63 = .ok (.dup, 1) := by decide +kernel
theorem dX3_init_64 : decode cX3_init 64 = .ok (.invokespecial 32, 3) := by decide +kernel
theorem dX3_init_67 : decode cX3_init 67 = .ok (.astore_n 2, 1) := by decide +kernel
theorem dX3_init_68 : decode cX3_init 68 = .ok (.new 30, 3) := by decide +kernel
theorem dX3_init_71 : decode cX3_init 71 = .ok (.dup, 1) := by decide +kernel
theorem dX3_init_72 : decode cX3_init 72 = .ok (.invokespecial 32, 3) := by decide +kernel
theorem dX3_init_75 : decode cX3_init 75 = .ok (.astore_n 3, 1) := by decide +kernel
theorem dX3_init_76 : decode cX3_init 76 = .ok (.iconst 0, 1) := by decide +kernel
theorem dX3_init_77 : decode cX3_init 77 = .ok (.istore 4, 2) := by decide +kernel
theorem dX3_init_79 : decode cX3_init 79 = .ok (.iload 4, 2) := by decide +kernel
theorem dX3_init_81 : decode cX3_init 81 = .ok (.bipush 17, 2) := by decide +kernel
theorem dX3_init_83 : decode cX3_init 83 = .ok (.if_icmp .ge 37, 3) := by decide +kernel
theorem dX3_init_86 : decode cX3_init 86 = .ok (.aload_n 2, 1) := by decide +kernel
theorem dX3_init_87 : decode cX3_init 87 = .ok (.iload 4, 2) := by decide +kernel
theorem dX3_init_89 : decode cX3_init 89 = .ok (.sipush 10000, 3) := by decide +kernel
theorem dX3_init_92 : decode cX3_init 92 = .ok (.iconst 0, 1) := by decide +kernel
theorem dX3_init_93 : decode cX3_init 93 = .ok (.invokevirtual 37, 3) := by decide +kernel
theorem dX3_init_96 : decode cX3_init 96 = .ok (.aload_n 3, 1) := by decide +kernel
theorem dX3_init_97 : decode cX3_init 97 = .ok (.iload 4, 2) := by decide +kernel
theorem dX3_init_99 : decode cX3_init 99 = .ok (.getstatic 41, 3) := by decide +kernel
theorem dX3_init_102 : decode cX3_init 102 = .ok (.iload 4, 2) := by decide +kernel
theorem dX3_init_104 : decode cX3_init 104 = .ok (.iaload, 1) := by decide +kernel
theorem dX3_init_105 : decode cX3_init 105 = .ok (.getstatic 44, 3) := by decide +kernel
theorem dX3_init_108 : decode cX3_init 108 = .ok (.iload 4, 2) := by decide +kernel
theorem dX3_init_110 : decode cX3_init 110 = .ok (.iaload, 1) := by decide +kernel
theorem dX3_init_111 : decode cX3_init 111 = .ok (.invokevirtual 37, 3) := by decide +kernel
theorem dX3_init_114 : decode cX3_init 114 = .ok (.iinc 4 1, 3) := by decide +kernel
theorem dX3_init_117 : decode cX3_init 117 = .ok (.goto (-38), 3) := by decide +kernel
theorem dX3_init_120 : decode cX3_init 120 = .ok (.aload_n 0, 1) := by decide +kernel
theorem dX3_init_121 : decode cX3_init 121 = .ok (.getfield 17, 3) := by decide +kernel
theorem dX3_init_124 : decode cX3_init 124 = .ok (.iconst 0, 1) := by decide +kernel
theorem dX3_init_125 : decode cX3_init 125 = .ok (.new 15, 3) := by decide +kernel
theorem dX3_init_128 : decode cX3_init 128 = .ok (.dup, 1) := by decide +kernel
theorem dX3_init_129 : decode cX3_init 129 = .ok (.aload_n 1, 1) := by decide +kernel
theorem dX3_init_130 : decode cX3_init 130 = .ok (.new 30, 3) := by decide +kernel
theorem dX3_init_133 : decode cX3_init 133 = .ok (.dup, 1) := by decide +kernel
theorem dX3_init_134 : decode cX3_init 134 = .ok (.invokespecial 32, 3) := by decide +kernel
theorem dX3_init_137 : decode cX3_init 137 = .ok (.aload_n 2, 1) := by decide +kernel
theorem dX3_init_138 : decode cX3_init 138 = .ok (.iconst 1, 1) := by decide +kernel
theorem dX3_init_139 : decode cX3_init 139 = .ok (.invokespecial 47, 3) := by decide +kernel
theorem dX3_init_142 : decode cX3_init 142 = .ok (.aastore, 1) := by decide +kernel
theorem dX3_init_143 : decode cX3_init 143 = .ok (.aload_n 0, 1) := by decide +kernel
theorem dX3_init_144 : decode cX3_init 144 = .ok (.getfield 17, 3) := by decide +kernel
theorem dX3_init_147 : decode cX3_init 147 = .ok (.iconst 1, 1) := by decide +kernel
theorem dX3_init_148 : decode cX3_init 148 = .ok (.new 15, 3) := by decide +kernel
theorem dX3_init_151 : decode cX3_init 151 = .ok (.dup, 1) := by decide +kernel
theorem dX3_init_152 : decode cX3_init 152 = .ok (.aload_n 1, 1) := by decide +kernel
theorem dX3_init_153 : decode cX3_init 153 = .ok (.new 30, 3) := by decide +kernel
theorem dX3_init_156 : decode cX3_init 156 = .ok (.dup, 1) := by decide +kernel
theorem dX3_init_157 : decode cX3_init 157 = .ok (.invokespecial 32, 3) := by decide +kernel
theorem dX3_init_160 : decode cX3_init 160 = .ok (.aload_n 3, 1) := by decide +kernel
theorem dX3_init_161 : decode cX3_init 161 = .ok (.iconst 1, 1) := by decide +kernel
theorem dX3_init_162 : decode cX3_init 162 = .ok (.invokespecial 47, 3) := by decide +kernel
theorem dX3_init_165 : decode cX3_init 165 = .ok (.aastore, 1) := by decide +kernel
theorem dX3_init_166 : decode cX3_init 166 = .ok (.aload_n 0, 1) := by decide +kernel
theorem dX3_init_167 : decode cX3_init 167 = .ok (.iconst 2, 1) := by decide +kernel
theorem dX3_init_168 : decode cX3_init 168 = .ok (.putfield 50, 3) := by decide +kernel
theorem dX3_init_171 : decode cX3_init 171 = .ok (.aload_n 0, 1) := by decide +kernel
theorem dX3_init_172 : decode cX3_init 172 = .ok (.sipush 200, 3) := by decide +kernel
theorem dX3_init_175 : decode cX3_init 175 = .ok (.invokevirtual 54, 3) := by decide +kernel
theorem dX3_init_178 : decode cX3_init 178 = .ok (.return_, 1) := by decide +kernel
theorem dX3_width_0 : decode cX3_width 0 = .ok (.aload_n 0, 1) := by decide +kernel
theorem dX3_width_1 : decode cX3_width 1 = .ok (.invokevirtual 58, 3) := by decide +kernel
theorem dX3_width_4 : decode cX3_width 4 = .ok (.ifCond .le 10, 3) := by decide +kernel
theorem dX3_width_7 : decode cX3_width 7 = .ok (.aload_n 0, 1) := by decide +kernel
theorem dX3_width_8 : decode cX3_width 8 = .ok (.bipush (-3), 2) := by decide +kernel
theorem dX3_width_10 : decode cX3_width 10 = .ok (.invokevirtual 62, 3) := by decide +kernel
theorem dX3_width_13 : decode cX3_width 13 = .ok (.ireturn, 1) := by decide +kernel
theorem dX3_width_14 : decode cX3_width 14 = .ok (.iload_n 1, 1) := by decide +kernel
theorem dX3_width_15 : decode cX3_width 15 = .ok (.iconst 1, 1) := by decide +kernel
theorem dX3_width_16 : decode cX3_width 16 = .ok (.if_icmp .ge 10, 3) := by decide +kernel
theorem dX3_width_19 : decode cX3_width 19 = .ok (.aload_n 0, 1) := by decide +kernel
theorem dX3_width_20 : decode cX3_width 20 = .ok (.bipush (-4), 2) := by decide +kernel
theorem dX3_width_22 : decode cX3_width 22 = .ok (.invokevirtual 62, 3) := by decide +kernel
theorem dX3_width_25 : decode cX3_width 25 = .ok (.ireturn, 1) := by decide +kernel
theorem dX3_width_26 : decode cX3_width 26 = .ok (.iload_n 1, 1) := by decide +kernel
theorem dX3_width_27 : decode cX3_width 27 = .ok (.sipush 1000, 3) := by decide +kernel
theorem dX3_width_30 : decode cX3_width 30 = .ok (.if_icmp .le 10, 3) := by decide +kernel
theorem dX3_width_33 : decode cX3_width 33 = .ok (.aload_n 0, 1) := by decide +kernel
theorem dX3_width_34 : decode cX3_width 34 = .ok (.bipush (-6), 2) := by decide +kernel
theorem dX3_width_36 : decode cX3_width 36 = .ok (.invokevirtual 62, 3) := by decide +kernel
theorem dX3_width_39 : decode cX3_width 39 = .ok (.ireturn, 1) := by decide +kernel
theorem dX3_width_40 : decode cX3_width 40 = .ok (.aload_n 0, 1) := by decide +kernel
theorem dX3_width_41 : decode cX3_width 41 = .ok (.getfield 66, 3) := by decide +kernel
theorem dX3_width_44 : decode cX3_width 44 = .ok (.istore_n 2, 1) := by decide +kernel
theorem dX3_width_45 : decode cX3_width 45 = .ok (.aload_n 0, 1) := by decide +kernel
theorem dX3_width_46 : decode cX3_width 46 = .ok (.iload_n 1, 1) := by decide +kernel
theorem dX3_width_47 : decode cX3_width 47 = .ok (.invokevirtual 54, 3) := by decide +kernel
theorem dX3_width_50 : decode cX3_width 50 = .ok (.iload_n 2, 1) := by decide +kernel
theorem dX3_width_51 : decode cX3_width 51 = .ok (.ireturn, 1) := by decide +kernel
theorem dX3_tolerance_0 : decode cX3_tolerance 0 = .ok (.iload_n 1, 1) := by decide +kernel
theorem dX3_tolerance_1 : decode cX3_tolerance 1 = .ok (.ifCond .ge 10, 3) := by decide +kernel
theorem dX3_tolerance_4 : decode cX3_tolerance 4 = .ok (.aload_n 0, 1) := by decide +kernel
theorem dX3_tolerance_5 : decode cX3_tolerance 5 = .ok (.bipush (-4), 2) := by decide +kernel
theorem dX3_tolerance_7 : decode cX3_tolerance 7 = .ok (.invokevirtual 62, 3) := by decide +kernel
theorem dX3_tolerance_10 : decode cX3_tolerance 10 = .ok (.ireturn, 1) := by decide +kernel
theorem dX3_tolerance_11 : decode cX3_tolerance 11 = .ok (.iload_n 1, 1) := by decide +kernel
theorem dX3_tolerance_12 : decode cX3_tolerance 12 = .ok (.bipush 100, 2) := by decide +kernel
theorem dX3_tolerance_14 : decode cX3_tolerance 14 = .ok (.if_icmp .le 10, 3) := by decide +kernel
theorem dX3_tolerance_17 : decode cX3_tolerance 17 = .ok (.aload_n 0, 1) := by decide +kernel
theorem dX3_tolerance_18 : decode cX3_tolerance 18 = .ok (.bipush (-6), 2) := by decide +kernel
theorem dX3_tolerance_20 : decode cX3_tolerance 20 = .ok (.invokevirtual 62, 3) := by decide +kernel
theorem dX3_tolerance_23 : decode cX3_tolerance 23 = .ok (.ireturn, 1) := by decide +kernel
theorem dX3_tolerance_24 : decode cX3_tolerance 24 = .ok (.aload_n 0, 1) := by decide +kernel
theorem dX3_tolerance_25 : decode cX3_tolerance 25 = .ok (.getfield 50, 3) := by decide +kernel
theorem dX3_tolerance_28 : decode cX3_tolerance 28 = .ok (.istore_n 2, 1) := by decide +kernel
theorem dX3_tolerance_29 : decode cX3_tolerance 29 = .ok (.aload_n 0, 1) := by decide +kernel
theorem dX3_tolerance_30 : decode cX3_tolerance 30 = .ok (.iload_n 1, 1) := by decide +kernel
theorem dX3_tolerance_31 : decode cX3_tolerance 31 = .ok (.putfield 50, 3) := by decide +kernel
theorem dX3_tolerance_34 : decode cX3_tolerance 34 = .ok (.iload_n 2, 1) := by decide +kernel
theorem dX3_tolerance_35 : decode cX3_tolerance 35 = .ok (.ireturn, 1) := by decide +kernel
theorem dX3_part_0 : decode cX3_part 0 = .ok (.aload_n 0, 1) := by decide +kernel
theorem dX3_part_1 : decode cX3_part 1 = .ok (.getfield 26, 3) := by decide +kernel
theorem dX3_part_4 : decode cX3_part 4 = .ok (.iload_n 1, 1) := by decide +kernel
theorem dX3_part_5 : decode cX3_part 5 = .ok (.iload_n 2, 1) := by decide +kernel
theorem dX3_part_6 : decode cX3_part 6 = .ok (.iload_n 3, 1) := by decide +kernel
theorem dX3_part_7 : decode cX3_part 7 = .ok (.iload 4, 2) := by decide +kernel
theorem dX3_part_9 : decode cX3_part 9 = .ok (.iload 5, 2) := by decide +kernel
theorem dX3_part_11 : decode cX3_part 11 = .ok (.invokevirtual 69, 3) := by decide +kernel
theorem dX3_part_14 : decode cX3_part 14 = .ok (.aload_n 0, 1) := by decide +kernel
theorem dX3_part_15 : decode cX3_part 15 = .ok (.getfield 26, 3) := by decide +kernel
theorem dX3_part_18 : decode cX3_part 18 = .ok (.iload 6, 2) := by decide +kernel
theorem dX3_part_20 : decode cX3_part 20 = .ok (.iload 7, 2) := by decide +kernel
theorem dX3_part_22 : decode cX3_part 22 = .ok (.invokevirtual 73, 3) := by decide +kernel
theorem dX3_part_25 : decode cX3_part 25 = .ok (.aload_n 0, 1) := by decide +kernel
theorem dX3_part_26 : decode cX3_part 26 = .ok (.getfield 26, 3) := by decide +kernel
theorem dX3_part_29 : decode cX3_part 29 = .ok (.iload 8, 2) := by decide +kernel
theorem dX3_part_31 : decode cX3_part 31 = .ok (.putfield 77, 3) := by decide +kernel
theorem dX3_part_34 : decode cX3_part 34 = .ok (.aload_n 0, 1) := by decide +kernel
theorem dX3_part_35 : decode cX3_part 35 = .ok (.invokevirtual 81, 3) := by decide +kernel
theorem dX3_part_38 : decode cX3_part 38 = .ok (.istore 9, 2) := by decide +kernel
theorem dX3_part_40 : decode cX3_part 40 = .ok (.iload 9, 2) := by decide +kernel
theorem dX3_part_42 : decode cX3_part 42 = .ok (.ifCond .ne 14, 3) := by decide +kernel
theorem dX3_part_45 : decode cX3_part 45 = .ok (.iload_n 1, 1) := by decide +kernel
theorem dX3_part_46 : decode cX3_part 46 = .ok (.iconst 2, 1) := by decide +kernel
theorem dX3_part_47 : decode cX3_part 47 = .ok (.if_icmp .ne 9, 3) := by decide +kernel
theorem dX3_part_50 : decode cX3_part 50 = .ok (.aload_n 0, 1) := by decide +kernel
theorem dX3_part_51 : decode cX3_part 51 = .ok (.invokevirtual 84, 3) := by decide +kernel
theorem dX3_part_54 : decode cX3_part 54 = .ok (.istore 9, 2) := by decide +kernel
theorem dX3_part_56 : decode cX3_part 56 = .ok (.iload 9, 2) := by decide +kernel
theorem dX3_part_58 : decode cX3_part 58 = .ok (.ifCond .eq 10, 3) := by decide +kernel
theorem dX3_part_61 : decode cX3_part 61 = .ok (.aload_n 0, 1) := by decide +kernel
theorem dX3_part_62 : decode cX3_part 62 = .ok (.iload 9, 2) := by decide +kernel
theorem dX3_part_64 : decode cX3_part 64 = .ok (.invokevirtual 62, 3) := by decide +kernel
theorem dX3_part_67 : decode cX3_part 67 = .ok (.ireturn, 1) := by decide +kernel
theorem dX3_part_68 : decode cX3_part 68 = .ok (.aload_n 0, 1) := by decide +kernel
theorem dX3_part_69 : decode cX3_part 69 = .ok (.invokevirtual 87, 3) := by decide +kernel
theorem dX3_part_72 : decode cX3_part 72 = .ok (.ireturn, 1) := by decide +kernel
theorem dX3_free_0 : decode cX3_free 0 = .ok (.aload_n 0, 1) := by decide +kernel
theorem dX3_free_1 : decode cX3_free 1 = .ok (.iload_n 1, 1) := by decide +kernel
theorem dX3_free_2 : decode cX3_free 2 = .ok (.invokevirtual 90, 3) := by decide +kernel
theorem dX3_free_5 : decode cX3_free 5 = .ok (.astore_n 2, 1) := by decide +kernel
theorem dX3_free_6 : decode cX3_free 6 = .ok (.aload_n 2, 1) := by decide +kernel
theorem dX3_free_7 : decode cX3_free 7 = .ok (.ifnonnull 9, 3) := by decide +kernel
theorem dX3_free_10 : decode cX3_free 10 = .ok (.aload_n 0, 1) := by decide +kernel
theorem dX3_free_11 : decode cX3_free 11 = .ok (.iconst (-1), 1) := by decide +kernel
theorem dX3_free_12 : decode cX3_free 12 = .ok (.invokevirtual 62, 3) := by decide +kernel
theorem dX3_free_15 : decode cX3_free 15 = .ok (.ireturn, 1) := by decide +kernel
theorem dX3_free_16 : decode cX3_free 16 = .ok (.aload_n 0, 1) := by decide +kernel
theorem dX3_free_17 : decode cX3_free 17 = .ok (.iload_n 1, 1) := by decide +kernel
theorem dX3_free_18 : decode cX3_free 18 = .ok (.invokevirtual 94, 3) := by decide +kernel
theorem dX3_free_21 : decode cX3_free 21 = .ok (.ifCond .le 10, 3) := by decide +kernel
theorem dX3_free_24 : decode cX3_free 24 = .ok (.aload_n 0, 1) := by decide +kernel
theorem dX3_free_25 : decode cX3_free 25 = .ok (.bipush (-3), 2) := by decide +kernel
theorem dX3_free_27 : decode cX3_free 27 = .ok (.invokevirtual 62, 3) := by decide +kernel
theorem dX3_free_30 : decode cX3_free 30 = .ok (.ireturn, 1) := by decide +kernel
theorem dX3_free_31 : decode cX3_free 31 = .ok (.aload_n 2, 1) := by decide +kernel
theorem dX3_free_32 : decode cX3_free 32 = .ok (.iconst 0, 1) := by decide +kernel
theorem dX3_free_33 : decode cX3_free 33 = .ok (.putfield 97, 3) := by decide +kernel
theorem dX3_free_36 : decode cX3_free 36 = .ok (.aload_n 0, 1) := by decide +kernel
theorem dX3_free_37 : decode cX3_free 37 = .ok (.iload_n 1, 1) := by decide +kernel
theorem dX3_free_38 : decode cX3_free 38 = .ok (.aconst_null, 1) := by decide +kernel
theorem dX3_free_39 : decode cX3_free 39 = .ok (.aconst_null, 1) := by decide +kernel
theorem dX3_free_40 : decode cX3_free 40 = .ok (.invokevirtual 100, 3) := by decide +kernel
theorem dX3_free_43 : decode cX3_free 43 = .ok (.iconst 1, 1) := by decide +kernel
theorem dX3_free_44 : decode cX3_free 44 = .ok (.ireturn, 1) := by decide +kernel
theorem dX3_hinge_0 : decode cX3_hinge 0 = .ok (.aload_n 0, 1) := by decide +kernel
theorem dX3_hinge_1 : decode cX3_hinge 1 = .ok (.iload_n 1, 1) := by decide +kernel
theorem dX3_hinge_2 : decode cX3_hinge 2 = .ok (.invokevirtual 90, 3) := by decide +kernel
theorem dX3_hinge_5 : decode cX3_hinge 5 = .ok (.astore 4, 2) := by decide +kernel
theorem dX3_hinge_7 : decode cX3_hinge 7 = .ok (.aload 4, 2) := by decide +kernel
theorem dX3_hinge_9 : decode cX3_hinge 9 = .ok (.ifnonnull 9, 3) := by decide +kernel
theorem dX3_hinge_12 : decode cX3_hinge 12 = .ok (.aload_n 0, 1) := by decide +kernel
theorem dX3_hinge_13 : decode cX3_hinge 13 = .ok (.iconst (-1), 1) := by decide +kernel
theorem dX3_hinge_14 : decode cX3_hinge 14 = .ok (.invokevirtual 62, 3) := by decide +kernel
theorem dX3_hinge_17 : decode cX3_hinge 17 = .ok (.ireturn, 1) := by decide +kernel
theorem dX3_hinge_18 : decode cX3_hinge 18 = .ok (.iload_n 3, 1) := by decide +kernel
theorem dX3_hinge_19 : decode cX3_hinge 19 = .ok (.aload 4, 2) := by decide +kernel
theorem dX3_hinge_21 : decode cX3_hinge 21 = .ok (.invokevirtual 104, 3) := by decide +kernel
theorem dX3_hinge_24 : decode cX3_hinge 24 = .ok (.if_icmp .ge 10, 3) := by decide +kernel
theorem dX3_hinge_27 : decode cX3_hinge 27 = .ok (.aload_n 0, 1) := by decide +kernel
theorem dX3_hinge_28 : decode cX3_hinge 28 = .ok (.bipush (-4), 2) := by decide +kernel
theorem dX3_hinge_30 : decode cX3_hinge 30 = .ok (.invokevirtual 62, 3) := by decide +kernel
theorem dX3_hinge_33 : decode cX3_hinge 33 = .ok (.ireturn, 1) := by decide +kernel
theorem dX3_hinge_34 : decode cX3_hinge 34 = .ok (.iload_n 3, 1) := by decide +kernel
theorem dX3_hinge_35 : decode cX3_hinge 35 = .ok (.aload_n 0, 1) := by decide +kernel
theorem dX3_hinge_36 : decode cX3_hinge 36 = .ok (.aload 4, 2) := by decide +kernel
theorem dX3_hinge_38 : decode cX3_hinge 38 = .ok (.iload_n 2, 1) := by decide +kernel
theorem dX3_hinge_39 : decode cX3_hinge 39 = .ok (.invokevirtual 107, 3) := by decide +kernel
theorem dX3_hinge_42 : decode cX3_hinge 42 = .ok (.invokevirtual 111, 3) := by decide +kernel
theorem dX3_hinge_45 : decode cX3_hinge 45 = .ok (.if_icmp .le 10, 3) := by decide +kernel
theorem dX3_hinge_48 : decode cX3_hinge 48 = .ok (.aload_n 0, 1) := by decide +kernel
theorem dX3_hinge_49 : decode cX3_hinge 49 = .ok (.bipush (-6), 2) := by decide +kernel
theorem dX3_hinge_51 : decode cX3_hinge 51 = .ok (.invokevirtual 62, 3) := by decide +kernel
theorem dX3_hinge_54 : decode cX3_hinge 54 = .ok (.ireturn, 1) := by decide +kernel
theorem dX3_hinge_55 : decode cX3_hinge 55 = .ok (.aload 4, 2) := by decide +kernel
theorem dX3_hinge_57 : decode cX3_hinge 57 = .ok (.iload_n 2, 1) := by decide +kernel
theorem dX3_hinge_58 : decode cX3_hinge 58 = .ok (.invokevirtual 114, 3) := by decide +kernel
theorem dX3_hinge_61 : decode cX3_hinge 61 = .ok (.istore 5, 2) := by decide +kernel
theorem dX3_hinge_63 : decode cX3_hinge 63 = .ok (.aload 4, 2) := by decide +kernel
theorem dX3_hinge_65 : decode cX3_hinge 65 = .ok (.iload_n 2, 1) := by decide +kernel
theorem dX3_hinge_66 : decode cX3_hinge 66 = .ok (.iload_n 3, 1) := by decide +kernel
theorem dX3_hinge_67 : decode cX3_hinge 67 = .ok (.invokevirtual 117, 3) := by decide +kernel
theorem dX3_hinge_70 : decode cX3_hinge 70 = .ok (.aload_n 0, 1) := by decide +kernel
theorem dX3_hinge_71 : decode cX3_hinge 71 = .ok (.iload_n 1, 1) := by decide +kernel
theorem dX3_hinge_72 : decode cX3_hinge 72 = .ok (.invokevirtual 121, 3) := by decide +kernel
theorem dX3_hinge_75 : decode cX3_hinge 75 = .ok (.iload 5, 2) := by decide +kernel
theorem dX3_hinge_77 : decode cX3_hinge 77 = .ok (.ireturn, 1) := by decide +kernel
theorem dX3_crease_0 : decode cX3_crease 0 = .ok (.aload_n 0, 1) := by decide +kernel
theorem dX3_crease_1 : decode cX3_crease 1 = .ok (.iload_n 1, 1) := by decide +kernel
theorem dX3_crease_2 : decode cX3_crease 2 = .ok (.invokevirtual 90, 3) := by decide +kernel
theorem dX3_crease_5 : decode cX3_crease 5 = .ok (.astore 4, 2) := by decide +kernel
theorem dX3_crease_7 : decode cX3_crease 7 = .ok (.aload 4, 2) := by decide +kernel
theorem dX3_crease_9 : decode cX3_crease 9 = .ok (.ifnull 10, 3) := by decide +kernel
theorem dX3_crease_12 : decode cX3_crease 12 = .ok (.iload_n 2, 1) := by decide +kernel
theorem dX3_crease_13 : decode cX3_crease 13 = .ok (.invokestatic 124, 3) := by decide +kernel
theorem dX3_crease_16 : decode cX3_crease 16 = .ok (.ifCond .ne 9, 3) := by decide +kernel
theorem dX3_crease_19 : decode cX3_crease 19 = .ok (.aload_n 0, 1) := by decide +kernel
theorem dX3_crease_20 : decode cX3_crease 20 = .ok (.iconst (-1), 1) := by decide +kernel
theorem dX3_crease_21 : decode cX3_crease 21 = .ok (.invokevirtual 128, 3) := by decide +kernel
theorem dX3_crease_24 : decode cX3_crease 24 = .ok (.ireturn, 1) := by decide +kernel
theorem dX3_crease_25 : decode cX3_crease 25 = .ok (.iload_n 3, 1) := by decide +kernel
theorem dX3_crease_26 : decode cX3_crease 26 = .ok (.ifCond .eq 15, 3) := by decide +kernel
theorem dX3_crease_29 : decode cX3_crease 29 = .ok (.iload_n 3, 1) := by decide +kernel
theorem dX3_crease_30 : decode cX3_crease 30 = .ok (.iconst 1, 1) := by decide +kernel
theorem dX3_crease_31 : decode cX3_crease 31 = .ok (.if_icmp .eq 10, 3) := by decide +kernel
theorem dX3_crease_34 : decode cX3_crease 34 = .ok (.aload_n 0, 1) := by decide +kernel
theorem dX3_crease_35 : decode cX3_crease 35 = .ok (.bipush (-2), 2) := by decide +kernel
theorem dX3_crease_37 : decode cX3_crease 37 = .ok (.invokevirtual 128, 3) := by decide +kernel
theorem dX3_crease_40 : decode cX3_crease 40 = .ok (.ireturn, 1) := by decide +kernel
theorem dX3_crease_41 : decode cX3_crease 41 = .ok (.aload 4, 2) := by decide +kernel
theorem dX3_crease_43 : decode cX3_crease 43 = .ok (.getfield 131, 3) := by decide +kernel
theorem dX3_crease_46 : decode cX3_crease 46 = .ok (.iload_n 2, 1) := by decide +kernel
theorem dX3_crease_47 : decode cX3_crease 47 = .ok (.iload_n 3, 1) := by decide +kernel
theorem dX3_crease_48 : decode cX3_crease 48 = .ok (.invokestatic 134, 3) := by decide +kernel
theorem dX3_crease_51 : decode cX3_crease 51 = .ok (.ireturn, 1) := by decide +kernel
theorem dX3_place_0 : decode cX3_place 0 = .ok (.aload_n 0, 1) := by decide +kernel
theorem dX3_place_1 : decode cX3_place 1 = .ok (.iload_n 1, 1) := by decide +kernel
theorem dX3_place_2 : decode cX3_place 2 = .ok (.invokevirtual 138, 3) := by decide +kernel
theorem dX3_place_5 : decode cX3_place 5 = .ok (.astore 5, 2) := by decide +kernel
theorem dX3_place_7 : decode cX3_place 7 = .ok (.aload 5, 2) := by decide +kernel
theorem dX3_place_9 : decode cX3_place 9 = .ok (.ifnull 10, 3) := by decide +kernel
theorem dX3_place_12 : decode cX3_place 12 = .ok (.iload_n 3, 1) := by decide +kernel
theorem dX3_place_13 : decode cX3_place 13 = .ok (.invokestatic 124, 3) := by decide +kernel
theorem dX3_place_16 : decode cX3_place 16 = .ok (.ifCond .ne 9, 3) := by decide +kernel
theorem dX3_place_19 : decode cX3_place 19 = .ok (.aload_n 0, 1) := by decide +kernel
theorem dX3_place_20 : decode cX3_place 20 = .ok (.iconst (-1), 1) := by decide +kernel
theorem dX3_place_21 : decode cX3_place 21 = .ok (.invokevirtual 128, 3) := by decide +kernel
theorem dX3_place_24 : decode cX3_place 24 = .ok (.ireturn, 1) := by decide +kernel
theorem dX3_place_25 : decode cX3_place 25 = .ok (.iload 4, 2) := by decide +kernel
theorem dX3_place_27 : decode cX3_place 27 = .ok (.ifCond .eq 16, 3) := by decide +kernel
theorem dX3_place_30 : decode cX3_place 30 = .ok (.iload 4, 2) := by decide +kernel
theorem dX3_place_32 : decode cX3_place 32 = .ok (.iconst 1, 1) := by decide +kernel
theorem dX3_place_33 : decode cX3_place 33 = .ok (.if_icmp .eq 10, 3) := by decide +kernel
theorem dX3_place_36 : decode cX3_place 36 = .ok (.aload_n 0, 1) := by decide +kernel
theorem dX3_place_37 : decode cX3_place 37 = .ok (.bipush (-2), 2) := by decide +kernel
theorem dX3_place_39 : decode cX3_place 39 = .ok (.invokevirtual 128, 3) := by decide +kernel
theorem dX3_place_42 : decode cX3_place 42 = .ok (.ireturn, 1) := by decide +kernel
theorem dX3_place_43 : decode cX3_place 43 = .ok (.iload_n 2, 1) := by decide +kernel
theorem dX3_place_44 : decode cX3_place 44 = .ok (.ifCond .ge 10, 3) := by decide +kernel
theorem dX3_place_47 : decode cX3_place 47 = .ok (.aload_n 0, 1) := by decide +kernel
theorem dX3_place_48 : decode cX3_place 48 = .ok (.bipush (-4), 2) := by decide +kernel
theorem dX3_place_50 : decode cX3_place 50 = .ok (.invokevirtual 128, 3) := by decide +kernel
theorem dX3_place_53 : decode cX3_place 53 = .ok (.ireturn, 1) := by decide +kernel
theorem dX3_place_54 : decode cX3_place 54 = .ok (.iload_n 2, 1) := by decide +kernel
theorem dX3_place_55 : decode cX3_place 55 = .ok (.aload 5, 2) := by decide +kernel
theorem dX3_place_57 : decode cX3_place 57 = .ok (.getfield 142, 3) := by decide +kernel
theorem dX3_place_60 : decode cX3_place 60 = .ok (.if_icmp .le 10, 3) := by decide +kernel
theorem dX3_place_63 : decode cX3_place 63 = .ok (.aload_n 0, 1) := by decide +kernel
theorem dX3_place_64 : decode cX3_place 64 = .ok (.bipush (-6), 2) := by decide +kernel
theorem dX3_place_66 : decode cX3_place 66 = .ok (.invokevirtual 128, 3) := by decide +kernel
theorem dX3_place_69 : decode cX3_place 69 = .ok (.ireturn, 1) := by decide +kernel
theorem dX3_place_70 : decode cX3_place 70 = .ok (.aload 5, 2) := by decide +kernel
theorem dX3_place_72 : decode cX3_place 72 = .ok (.iload_n 2, 1) := by decide +kernel
theorem dX3_place_73 : decode cX3_place 73 = .ok (.iload_n 3, 1) := by decide +kernel
theorem dX3_place_74 : decode cX3_place 74 = .ok (.aload_n 0, 1) := by decide +kernel
theorem dX3_place_75 : decode cX3_place 75 = .ok (.getfield 33, 3) := by decide +kernel
theorem dX3_place_78 : decode cX3_place 78 = .ok (.invokevirtual 145, 3) := by decide +kernel
theorem dX3_place_81 : decode cX3_place 81 = .ok (.aload_n 0, 1) := by decide +kernel
theorem dX3_place_82 : decode cX3_place 82 = .ok (.getfield 33, 3) := by decide +kernel
theorem dX3_place_85 : decode cX3_place 85 = .ok (.iload_n 3, 1) := by decide +kernel
theorem dX3_place_86 : decode cX3_place 86 = .ok (.iload 4, 2) := by decide +kernel
theorem dX3_place_88 : decode cX3_place 88 = .ok (.invokestatic 134, 3) := by decide +kernel
theorem dX3_place_91 : decode cX3_place 91 = .ok (.ireturn, 1) := by decide +kernel
theorem dX3_miss_0 : decode cX3_miss 0 = .ok (.aload_n 0, 1) := by decide +kernel
theorem dX3_miss_1 : decode cX3_miss 1 = .ok (.iload_n 1, 1) := by decide +kernel
theorem dX3_miss_2 : decode cX3_miss 2 = .ok (.invokevirtual 90, 3) := by decide +kernel
theorem dX3_miss_5 : decode cX3_miss 5 = .ok (.astore_n 3, 1) := by decide +kernel
theorem dX3_miss_6 : decode cX3_miss 6 = .ok (.aload_n 3, 1) := by decide +kernel
theorem dX3_miss_7 : decode cX3_miss 7 = .ok (.ifnull 10, 3) := by decide +kernel
theorem dX3_miss_10 : decode cX3_miss 10 = .ok (.iload_n 2, 1) := by decide +kernel
theorem dX3_miss_11 : decode cX3_miss 11 = .ok (.invokestatic 124, 3) := by decide +kernel
theorem dX3_miss_14 : decode cX3_miss 14 = .ok (.ifCond .ne 9, 3) := by decide +kernel
theorem dX3_miss_17 : decode cX3_miss 17 = .ok (.aload_n 0, 1) := by decide +kernel
theorem dX3_miss_18 : decode cX3_miss 18 = .ok (.iconst (-1), 1) := by decide +kernel
theorem dX3_miss_19 : decode cX3_miss 19 = .ok (.invokevirtual 62, 3) := by decide +kernel
theorem dX3_miss_22 : decode cX3_miss 22 = .ok (.ireturn, 1) := by decide +kernel
theorem dX3_miss_23 : decode cX3_miss 23 = .ok (.aload_n 3, 1) := by decide +kernel
theorem dX3_miss_24 : decode cX3_miss 24 = .ok (.iload_n 2, 1) := by decide +kernel
theorem dX3_miss_25 : decode cX3_miss 25 = .ok (.invokevirtual 149, 3) := by decide +kernel
theorem dX3_miss_28 : decode cX3_miss 28 = .ok (.ireturn, 1) := by decide +kernel
theorem dX3_stuck_0 : decode cX3_stuck 0 = .ok (.aload_n 0, 1) := by decide +kernel
theorem dX3_stuck_1 : decode cX3_stuck 1 = .ok (.iload_n 1, 1) := by decide +kernel
theorem dX3_stuck_2 : decode cX3_stuck 2 = .ok (.invokevirtual 90, 3) := by decide +kernel
theorem dX3_stuck_5 : decode cX3_stuck 5 = .ok (.astore_n 2, 1) := by decide +kernel
theorem dX3_stuck_6 : decode cX3_stuck 6 = .ok (.aload_n 2, 1) := by decide +kernel
theorem dX3_stuck_7 : decode cX3_stuck 7 = .ok (.ifnonnull 9, 3) := by decide +kernel
theorem dX3_stuck_10 : decode cX3_stuck 10 = .ok (.aload_n 0, 1) := by decide +kernel
theorem dX3_stuck_11 : decode cX3_stuck 11 = .ok (.iconst (-1), 1) := by decide +kernel
theorem dX3_stuck_12 : decode cX3_stuck 12 = .ok (.invokevirtual 62, 3) := by decide +kernel
theorem dX3_stuck_15 : decode cX3_stuck 15 = .ok (.ireturn, 1) := by decide +kernel
theorem dX3_stuck_16 : decode cX3_stuck 16 = .ok (.aload_n 2, 1) := by decide +kernel
theorem dX3_stuck_17 : decode cX3_stuck 17 = .ok (.getfield 131, 3) := by decide +kernel
theorem dX3_stuck_20 : decode cX3_stuck 20 = .ok (.invokevirtual 152, 3) := by decide +kernel
theorem dX3_stuck_23 : decode cX3_stuck 23 = .ok (.ireturn, 1) := by decide +kernel
theorem dX3_out_0 : decode cX3_out 0 = .ok (.iload_n 1, 1) := by decide +kernel
theorem dX3_out_1 : decode cX3_out 1 = .ok (.invokestatic 124, 3) := by decide +kernel
theorem dX3_out_4 : decode cX3_out 4 = .ok (.ifCond .ne 9, 3) := by decide +kernel
theorem dX3_out_7 : decode cX3_out 7 = .ok (.aload_n 0, 1) := by decide +kernel
theorem dX3_out_8 : decode cX3_out 8 = .ok (.iconst (-1), 1) := by decide +kernel
theorem dX3_out_9 : decode cX3_out 9 = .ok (.invokevirtual 62, 3) := by decide +kernel
theorem dX3_out_12 : decode cX3_out 12 = .ok (.ireturn, 1) := by decide +kernel
theorem dX3_out_13 : decode cX3_out 13 = .ok (.aload_n 0, 1) := by decide +kernel
theorem dX3_out_14 : decode cX3_out 14 = .ok (.iload_n 1, 1) := by decide +kernel
theorem dX3_out_15 : decode cX3_out 15 = .ok (.invokevirtual 155, 3) := by decide +kernel
theorem dX3_out_18 : decode cX3_out 18 = .ok (.ireturn, 1) := by decide +kernel
theorem dX3_meet_0 : decode cX3_meet 0 = .ok (.aload_n 0, 1) := by decide +kernel
theorem dX3_meet_1 : decode cX3_meet 1 = .ok (.iload_n 1, 1) := by decide +kernel
theorem dX3_meet_2 : decode cX3_meet 2 = .ok (.invokevirtual 138, 3) := by decide +kernel
theorem dX3_meet_5 : decode cX3_meet 5 = .ok (.astore 4, 2) := by decide +kernel
theorem dX3_meet_7 : decode cX3_meet 7 = .ok (.aload_n 0, 1) := by decide +kernel
theorem dX3_meet_8 : decode cX3_meet 8 = .ok (.iload_n 2, 1) := by decide +kernel
theorem dX3_meet_9 : decode cX3_meet 9 = .ok (.invokevirtual 138, 3) := by decide +kernel
theorem dX3_meet_12 : decode cX3_meet 12 = .ok (.astore 5, 2) := by decide +kernel
theorem dX3_meet_14 : decode cX3_meet 14 = .ok (.aload 4, 2) := by decide +kernel
theorem dX3_meet_16 : decode cX3_meet 16 = .ok (.ifnull 20, 3) := by decide +kernel
theorem dX3_meet_19 : decode cX3_meet 19 = .ok (.aload 5, 2) := by decide +kernel
theorem dX3_meet_21 : decode cX3_meet 21 = .ok (.ifnull 15, 3) := by decide +kernel
theorem dX3_meet_24 : decode cX3_meet 24 = .ok (.iload_n 1, 1) := by decide +kernel
theorem dX3_meet_25 : decode cX3_meet 25 = .ok (.iload_n 2, 1) := by decide +kernel
theorem dX3_meet_26 : decode cX3_meet 26 = .ok (.if_icmp .eq 10, 3) := by decide +kernel
theorem dX3_meet_29 : decode cX3_meet 29 = .ok (.iload_n 3, 1) := by decide +kernel
theorem dX3_meet_30 : decode cX3_meet 30 = .ok (.invokestatic 124, 3) := by decide +kernel
theorem dX3_meet_33 : decode cX3_meet 33 = .ok (.ifCond .ne 9, 3) := by decide +kernel
theorem dX3_meet_36 : decode cX3_meet 36 = .ok (.aload_n 0, 1) := by decide +kernel
theorem dX3_meet_37 : decode cX3_meet 37 = .ok (.iconst (-1), 1) := by decide +kernel
theorem dX3_meet_38 : decode cX3_meet 38 = .ok (.invokevirtual 62, 3) := by decide +kernel
theorem dX3_meet_41 : decode cX3_meet 41 = .ok (.ireturn, 1) := by decide +kernel
theorem dX3_meet_42 : decode cX3_meet 42 = .ok (.aload 4, 2) := by decide +kernel
theorem dX3_meet_44 : decode cX3_meet 44 = .ok (.aload 5, 2) := by decide +kernel
theorem dX3_meet_46 : decode cX3_meet 46 = .ok (.iload_n 3, 1) := by decide +kernel
theorem dX3_meet_47 : decode cX3_meet 47 = .ok (.invokevirtual 158, 3) := by decide +kernel
theorem dX3_meet_50 : decode cX3_meet 50 = .ok (.ifCond .eq 7, 3) := by decide +kernel
theorem dX3_meet_53 : decode cX3_meet 53 = .ok (.iconst 1, 1) := by decide +kernel
theorem dX3_meet_54 : decode cX3_meet 54 = .ok (.goto 4, 3) := by decide +kernel
theorem dX3_meet_57 : decode cX3_meet 57 = .ok (.iconst 0, 1) := by decide +kernel
theorem dX3_meet_58 : decode cX3_meet 58 = .ok (.ireturn, 1) := by decide +kernel
theorem dX3_meets_0 : decode cX3_meets 0 = .ok (.iload_n 1, 1) := by decide +kernel
theorem dX3_meets_1 : decode cX3_meets 1 = .ok (.ifCond .lt 8, 3) := by decide +kernel
theorem dX3_meets_4 : decode cX3_meets 4 = .ok (.iload_n 1, 1) := by decide +kernel
theorem dX3_meets_5 : decode cX3_meets 5 = .ok (.iconst 2, 1) := by decide +kernel
theorem dX3_meets_6 : decode cX3_meets 6 = .ok (.if_icmp .le 10, 3) := by decide +kernel
theorem dX3_meets_9 : decode cX3_meets 9 = .ok (.aload_n 0, 1) := by decide +kernel
theorem dX3_meets_10 : decode cX3_meets 10 = .ok (.bipush (-2), 2) := by decide +kernel
theorem dX3_meets_12 : decode cX3_meets 12 = .ok (.invokevirtual 62, 3) := by decide +kernel
theorem dX3_meets_15 : decode cX3_meets 15 = .ok (.ireturn, 1) := by decide +kernel
theorem dX3_meets_16 : decode cX3_meets 16 = .ok (.aload_n 0, 1) := by decide +kernel
theorem dX3_meets_17 : decode cX3_meets 17 = .ok (.invokevirtual 162, 3) := by decide +kernel
theorem dX3_meets_20 : decode cX3_meets 20 = .ok (.istore_n 2, 1) := by decide +kernel
theorem dX3_meets_21 : decode cX3_meets 21 = .ok (.iconst 0, 1) := by decide +kernel
theorem dX3_meets_22 : decode cX3_meets 22 = .ok (.istore_n 3, 1) := by decide +kernel
theorem dX3_meets_23 : decode cX3_meets 23 = .ok (.iload_n 3, 1) := by decide +kernel
theorem dX3_meets_24 : decode cX3_meets 24 = .ok (.bipush 17, 2) := by decide +kernel
theorem dX3_meets_26 : decode cX3_meets 26 = .ok (.if_icmp .ge 61, 3) := by decide +kernel
theorem dX3_meets_29 : decode cX3_meets 29 = .ok (.iconst 0, 1) := by decide +kernel
theorem dX3_meets_30 : decode cX3_meets 30 = .ok (.istore 4, 2) := by decide +kernel
theorem dX3_meets_32 : decode cX3_meets 32 = .ok (.iload 4, 2) := by decide +kernel
theorem dX3_meets_34 : decode cX3_meets 34 = .ok (.iload_n 2, 1) := by decide +kernel
theorem dX3_meets_35 : decode cX3_meets 35 = .ok (.if_icmp .ge 46, 3) := by decide +kernel
theorem dX3_meets_38 : decode cX3_meets 38 = .ok (.aload_n 0, 1) := by decide +kernel
theorem dX3_meets_39 : decode cX3_meets 39 = .ok (.iload 4, 2) := by decide +kernel
theorem dX3_meets_41 : decode cX3_meets 41 = .ok (.iload_n 3, 1) := by decide +kernel
theorem dX3_meets_42 : decode cX3_meets 42 = .ok (.invokevirtual 165, 3) := by decide +kernel
theorem dX3_meets_45 : decode cX3_meets 45 = .ok (.istore 5, 2) := by decide +kernel
theorem dX3_meets_47 : decode cX3_meets 47 = .ok (.iload 5, 2) := by decide +kernel
theorem dX3_meets_49 : decode cX3_meets 49 = .ok (.bipush (-9), 2) := by decide +kernel
theorem dX3_meets_51 : decode cX3_meets 51 = .ok (.if_icmp .eq 24, 3) := by decide +kernel
theorem dX3_meets_54 : decode cX3_meets 54 = .ok (.iload_n 1, 1) := by decide +kernel
theorem dX3_meets_55 : decode cX3_meets 55 = .ok (.ifCond .ne 7, 3) := by decide +kernel
theorem dX3_meets_58 : decode cX3_meets 58 = .ok (.iload_n 3, 1) := by decide +kernel
theorem dX3_meets_59 : decode cX3_meets 59 = .ok (.goto 15, 3) := by decide +kernel
theorem dX3_meets_62 : decode cX3_meets 62 = .ok (.iload_n 1, 1) := by decide +kernel
theorem dX3_meets_63 : decode cX3_meets 63 = .ok (.iconst 1, 1) := by decide +kernel
theorem dX3_meets_64 : decode cX3_meets 64 = .ok (.if_icmp .ne 8, 3) := by decide +kernel
theorem dX3_meets_67 : decode cX3_meets 67 = .ok (.iload 4, 2) := by decide +kernel
theorem dX3_meets_69 : decode cX3_meets 69 = .ok (.goto 5, 3) := by decide +kernel
theorem dX3_meets_72 : decode cX3_meets 72 = .ok (.iload 5, 2) := by decide +kernel
theorem dX3_meets_74 : decode cX3_meets 74 = .ok (.ireturn, 1) := by decide +kernel
theorem dX3_meets_75 : decode cX3_meets 75 = .ok (.iinc 4 1, 3) := by decide +kernel
theorem dX3_meets_78 : decode cX3_meets 78 = .ok (.goto (-46), 3) := by decide +kernel
theorem dX3_meets_81 : decode cX3_meets 81 = .ok (.iinc 3 1, 3) := by decide +kernel
theorem dX3_meets_84 : decode cX3_meets 84 = .ok (.goto (-61), 3) := by decide +kernel
theorem dX3_meets_87 : decode cX3_meets 87 = .ok (.bipush (-9), 2) := by decide +kernel
theorem dX3_meets_89 : decode cX3_meets 89 = .ok (.ireturn, 1) := by decide +kernel
theorem dX3_tall_0 : decode cX3_tall 0 = .ok (.iload_n 1, 1) := by decide +kernel
theorem dX3_tall_1 : decode cX3_tall 1 = .ok (.invokestatic 124, 3) := by decide +kernel
theorem dX3_tall_4 : decode cX3_tall 4 = .ok (.ifCond .ne 9, 3) := by decide +kernel
theorem dX3_tall_7 : decode cX3_tall 7 = .ok (.aload_n 0, 1) := by decide +kernel
theorem dX3_tall_8 : decode cX3_tall 8 = .ok (.iconst (-1), 1) := by decide +kernel
theorem dX3_tall_9 : decode cX3_tall 9 = .ok (.invokevirtual 128, 3) := by decide +kernel
theorem dX3_tall_12 : decode cX3_tall 12 = .ok (.ireturn, 1) := by decide +kernel
theorem dX3_tall_13 : decode cX3_tall 13 = .ok (.aload_n 0, 1) := by decide +kernel
theorem dX3_tall_14 : decode cX3_tall 14 = .ok (.iload_n 1, 1) := by decide +kernel
theorem dX3_tall_15 : decode cX3_tall 15 = .ok (.invokevirtual 169, 3) := by decide +kernel
theorem dX3_tall_18 : decode cX3_tall 18 = .ok (.ireturn, 1) := by decide +kernel
theorem dX3_move_0 : decode cX3_move 0 = .ok (.aload_n 0, 1) := by decide +kernel
theorem dX3_move_1 : decode cX3_move 1 = .ok (.iload_n 1, 1) := by decide +kernel
theorem dX3_move_2 : decode cX3_move 2 = .ok (.invokevirtual 90, 3) := by decide +kernel
theorem dX3_move_5 : decode cX3_move 5 = .ok (.astore_n 3, 1) := by decide +kernel
theorem dX3_move_6 : decode cX3_move 6 = .ok (.aload_n 3, 1) := by decide +kernel
theorem dX3_move_7 : decode cX3_move 7 = .ok (.ifnull 16, 3) := by decide +kernel
theorem dX3_move_10 : decode cX3_move 10 = .ok (.iload_n 2, 1) := by decide +kernel
theorem dX3_move_11 : decode cX3_move 11 = .ok (.invokestatic 124, 3) := by decide +kernel
theorem dX3_move_14 : decode cX3_move 14 = .ok (.ifCond .eq 9, 3) := by decide +kernel
theorem dX3_move_17 : decode cX3_move 17 = .ok (.iload_n 2, 1) := by decide +kernel
theorem dX3_move_18 : decode cX3_move 18 = .ok (.bipush 16, 2) := by decide +kernel
theorem dX3_move_20 : decode cX3_move 20 = .ok (.if_icmp .ne 9, 3) := by decide +kernel
theorem dX3_move_23 : decode cX3_move 23 = .ok (.aload_n 0, 1) := by decide +kernel
theorem dX3_move_24 : decode cX3_move 24 = .ok (.iconst (-1), 1) := by decide +kernel
theorem dX3_move_25 : decode cX3_move 25 = .ok (.invokevirtual 128, 3) := by decide +kernel
theorem dX3_move_28 : decode cX3_move 28 = .ok (.ireturn, 1) := by decide +kernel
theorem dX3_move_29 : decode cX3_move 29 = .ok (.aload_n 3, 1) := by decide +kernel
theorem dX3_move_30 : decode cX3_move 30 = .ok (.getfield 131, 3) := by decide +kernel
theorem dX3_move_33 : decode cX3_move 33 = .ok (.iload_n 2, 1) := by decide +kernel
theorem dX3_move_34 : decode cX3_move 34 = .ok (.invokevirtual 172, 3) := by decide +kernel
theorem dX3_move_37 : decode cX3_move 37 = .ok (.ireturn, 1) := by decide +kernel
theorem dX3_greatest_0 : decode cX3_greatest 0 = .ok (.iconst 0, 1) := by decide +kernel
theorem dX3_greatest_1 : decode cX3_greatest 1 = .ok (.istore_n 1, 1) := by decide +kernel
theorem dX3_greatest_2 : decode cX3_greatest 2 = .ok (.iconst 0, 1) := by decide +kernel
theorem dX3_greatest_3 : decode cX3_greatest 3 = .ok (.istore_n 2, 1) := by decide +kernel
theorem dX3_greatest_4 : decode cX3_greatest 4 = .ok (.iload_n 2, 1) := by decide +kernel
theorem dX3_greatest_5 : decode cX3_greatest 5 = .ok (.aload_n 0, 1) := by decide +kernel
theorem dX3_greatest_6 : decode cX3_greatest 6 = .ok (.getfield 175, 3) := by decide +kernel
theorem dX3_greatest_9 : decode cX3_greatest 9 = .ok (.if_icmp .ge 49, 3) := by decide +kernel
theorem dX3_greatest_12 : decode cX3_greatest 12 = .ok (.aload_n 0, 1) := by decide +kernel
theorem dX3_greatest_13 : decode cX3_greatest 13 = .ok (.iload_n 2, 1) := by decide +kernel
theorem dX3_greatest_14 : decode cX3_greatest 14 = .ok (.invokevirtual 90, 3) := by decide +kernel
theorem dX3_greatest_17 : decode cX3_greatest 17 = .ok (.astore_n 3, 1) := by decide +kernel
theorem dX3_greatest_18 : decode cX3_greatest 18 = .ok (.aload_n 3, 1) := by decide +kernel
theorem dX3_greatest_19 : decode cX3_greatest 19 = .ok (.ifnull 33, 3) := by decide +kernel
theorem dX3_greatest_22 : decode cX3_greatest 22 = .ok (.iconst 0, 1) := by decide +kernel
theorem dX3_greatest_23 : decode cX3_greatest 23 = .ok (.istore 4, 2) := by decide +kernel
theorem dX3_greatest_25 : decode cX3_greatest 25 = .ok (.iload 4, 2) := by decide +kernel
theorem dX3_greatest_27 : decode cX3_greatest 27 = .ok (.bipush 16, 2) := by decide +kernel
theorem dX3_greatest_29 : decode cX3_greatest 29 = .ok (.if_icmp .ge 23, 3) := by decide +kernel
theorem dX3_greatest_32 : decode cX3_greatest 32 = .ok (.iload_n 1, 1) := by decide +kernel
theorem dX3_greatest_33 : decode cX3_greatest 33 = .ok (.aload_n 3, 1) := by decide +kernel
theorem dX3_greatest_34 : decode cX3_greatest 34 = .ok (.getfield 131, 3) := by decide +kernel
theorem dX3_greatest_37 : decode cX3_greatest 37 = .ok (.iload 4, 2) := by decide +kernel
theorem dX3_greatest_39 : decode cX3_greatest 39 = .ok (.invokevirtual 172, 3) := by decide +kernel
theorem dX3_greatest_42 : decode cX3_greatest 42 = .ok (.invokestatic 178, 3) := by decide +kernel
theorem dX3_greatest_45 : decode cX3_greatest 45 = .ok (.istore_n 1, 1) := by decide +kernel
theorem dX3_greatest_46 : decode cX3_greatest 46 = .ok (.iinc 4 1, 3) := by decide +kernel
theorem dX3_greatest_49 : decode cX3_greatest 49 = .ok (.goto (-24), 3) := by decide +kernel
theorem dX3_greatest_52 : decode cX3_greatest 52 = .ok (.iinc 2 1, 3) := by decide +kernel
theorem dX3_greatest_55 : decode cX3_greatest 55 = .ok (.goto (-51), 3) := by decide +kernel
theorem dX3_greatest_58 : decode cX3_greatest 58 = .ok (.iload_n 1, 1) := by decide +kernel
theorem dX3_greatest_59 : decode cX3_greatest 59 = .ok (.ireturn, 1) := by decide +kernel
theorem dX3_find_0 : decode cX3_find 0 = .ok (.aload_n 0, 1) := by decide +kernel
theorem dX3_find_1 : decode cX3_find 1 = .ok (.iload_n 1, 1) := by decide +kernel
theorem dX3_find_2 : decode cX3_find 2 = .ok (.invokevirtual 90, 3) := by decide +kernel
theorem dX3_find_5 : decode cX3_find 5 = .ok (.astore 7, 2) := by decide +kernel
theorem dX3_find_7 : decode cX3_find 7 = .ok (.aload 7, 2) := by decide +kernel
theorem dX3_find_9 : decode cX3_find 9 = .ok (.ifnull 11, 3) := by decide +kernel
theorem dX3_find_12 : decode cX3_find 12 = .ok (.iload 4, 2) := by decide +kernel
theorem dX3_find_14 : decode cX3_find 14 = .ok (.invokestatic 124, 3) := by decide +kernel
theorem dX3_find_17 : decode cX3_find 17 = .ok (.ifCond .ne 9, 3) := by decide +kernel
theorem dX3_find_20 : decode cX3_find 20 = .ok (.aload_n 0, 1) := by decide +kernel
theorem dX3_find_21 : decode cX3_find 21 = .ok (.iconst (-1), 1) := by decide +kernel
theorem dX3_find_22 : decode cX3_find 22 = .ok (.invokevirtual 62, 3) := by decide +kernel
theorem dX3_find_25 : decode cX3_find 25 = .ok (.ireturn, 1) := by decide +kernel
theorem dX3_find_26 : decode cX3_find 26 = .ok (.iload_n 3, 1) := by decide +kernel
theorem dX3_find_27 : decode cX3_find 27 = .ok (.ifCond .lt 8, 3) := by decide +kernel
theorem dX3_find_30 : decode cX3_find 30 = .ok (.iload 6, 2) := by decide +kernel
theorem dX3_find_32 : decode cX3_find 32 = .ok (.ifCond .ge 10, 3) := by decide +kernel
theorem dX3_find_35 : decode cX3_find 35 = .ok (.aload_n 0, 1) := by decide +kernel
theorem dX3_find_36 : decode cX3_find 36 = .ok (.bipush (-4), 2) := by decide +kernel
theorem dX3_find_38 : decode cX3_find 38 = .ok (.invokevirtual 62, 3) := by decide +kernel
theorem dX3_find_41 : decode cX3_find 41 = .ok (.ireturn, 1) := by decide +kernel
theorem dX3_find_42 : decode cX3_find 42 = .ok (.aload_n 0, 1) := by decide +kernel
theorem dX3_find_43 : decode cX3_find 43 = .ok (.aload 7, 2) := by decide +kernel
theorem dX3_find_45 : decode cX3_find 45 = .ok (.iload_n 2, 1) := by decide +kernel
theorem dX3_find_46 : decode cX3_find 46 = .ok (.invokevirtual 107, 3) := by decide +kernel
theorem dX3_find_49 : decode cX3_find 49 = .ok (.invokevirtual 111, 3) := by decide +kernel
theorem dX3_find_52 : decode cX3_find 52 = .ok (.istore 8, 2) := by decide +kernel
theorem dX3_find_54 : decode cX3_find 54 = .ok (.iload_n 3, 1) := by decide +kernel
theorem dX3_find_55 : decode cX3_find 55 = .ok (.iload 8, 2) := by decide +kernel
theorem dX3_find_57 : decode cX3_find 57 = .ok (.if_icmp .le 10, 3) := by decide +kernel
theorem dX3_find_60 : decode cX3_find 60 = .ok (.aload_n 0, 1) := by decide +kernel
theorem dX3_find_61 : decode cX3_find 61 = .ok (.bipush (-6), 2) := by decide +kernel
theorem dX3_find_63 : decode cX3_find 63 = .ok (.invokevirtual 62, 3) := by decide +kernel
theorem dX3_find_66 : decode cX3_find 66 = .ok (.ireturn, 1) := by decide +kernel
theorem dX3_find_67 : decode cX3_find 67 = .ok (.aload_n 0, 1) := by decide +kernel
theorem dX3_find_68 : decode cX3_find 68 = .ok (.getfield 26, 3) := by decide +kernel
theorem dX3_find_71 : decode cX3_find 71 = .ok (.aload 7, 2) := by decide +kernel
theorem dX3_find_73 : decode cX3_find 73 = .ok (.invokevirtual 183, 3) := by decide +kernel
theorem dX3_find_76 : decode cX3_find 76 = .ok (.iload_n 3, 1) := by decide +kernel
theorem dX3_find_77 : decode cX3_find 77 = .ok (.aload 7, 2) := by decide +kernel
theorem dX3_find_79 : decode cX3_find 79 = .ok (.invokevirtual 104, 3) := by decide +kernel
theorem dX3_find_82 : decode cX3_find 82 = .ok (.invokestatic 178, 3) := by decide +kernel
theorem dX3_find_85 : decode cX3_find 85 = .ok (.istore 9, 2) := by decide +kernel
theorem dX3_find_87 : decode cX3_find 87 = .ok (.iload 9, 2) := by decide +kernel
theorem dX3_find_89 : decode cX3_find 89 = .ok (.iload 8, 2) := by decide +kernel
theorem dX3_find_91 : decode cX3_find 91 = .ok (.if_icmp .gt 48, 3) := by decide +kernel
theorem dX3_find_94 : decode cX3_find 94 = .ok (.aload_n 0, 1) := by decide +kernel
theorem dX3_find_95 : decode cX3_find 95 = .ok (.getfield 26, 3) := by decide +kernel
theorem dX3_find_98 : decode cX3_find 98 = .ok (.iload_n 2, 1) := by decide +kernel
theorem dX3_find_99 : decode cX3_find 99 = .ok (.iload 9, 2) := by decide +kernel
theorem dX3_find_101 : decode cX3_find 101 = .ok (.invokevirtual 117, 3) := by decide +kernel
theorem dX3_find_104 : decode cX3_find 104 = .ok (.aload_n 0, 1) := by decide +kernel
theorem dX3_find_105 : decode cX3_find 105 = .ok (.aload_n 0, 1) := by decide +kernel
theorem dX3_find_106 : decode cX3_find 106 = .ok (.getfield 26, 3) := by decide +kernel
theorem dX3_find_109 : decode cX3_find 109 = .ok (.iload 4, 2) := by decide +kernel
theorem dX3_find_111 : decode cX3_find 111 = .ok (.invokevirtual 187, 3) := by decide +kernel
